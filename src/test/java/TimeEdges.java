/** The edges of promises 1 and 26 to 32: the net, time, draws, and counts. */
public final class TimeEdges extends Checks {
    private static final int CALL = Rangehold.CALL, VOTE = Rangehold.VOTE, ENTRIES = Rangehold.ENTRIES, BASE = Rangehold.BASE, GOT = Rangehold.GOT;
    private static final int REQUEST = Rangehold.REQUEST, ANSWER = Rangehold.ANSWER, LEADER = Rangehold.LEADER;

    private static void newObject() {
        Rangehold x = new Rangehold();
        for (int what = 0; what <= 18; what++) {
            is("count(" + what + ")", x.count(what), 0);
        }
        is("agrees", x.agrees(), true);
        is("errors", x.errors(), 0);
        is("fineShare without an ask", x.fineShare() == 0.0, true);
        is("meanEntries without a copy", x.meanEntries() == 0.0f, true);
        for (int key = 0; key < 32; key++) {
            is("ownerOf", x.ownerOf(key), NONE);
            is("valueAt", x.valueAt(key, Long.MAX_VALUE), ABSENT);
            is("heldAt", x.heldAt(key), ABSENT);
        }
        is("no error", x.errorKind(), 0);
        is("no place", x.errorPlace(), NONE);
        String before = Snapshot.of(x);
        is("deliver of nothing", x.deliver(0), NONE);
        is("lose of nothing", x.lose(1000), NONE);
        is("twice of nothing", x.twice(7), NONE);
        is("settle of nothing", x.settle(40), 0);
        is("clearText of nothing", x.clearText(), 0);
        is("load of nothing", x.load(), 0);
        unchanged("nothing", x, before);
        fails("nodeAt", NO_SUCH_NUMBER, x, () -> x.nodeAt(0, 0));
        fails("rangeAt", NO_SUCH_NUMBER, x, () -> x.rangeAt(0, 0));
        fails("askAt", NO_SUCH_NUMBER, x, () -> x.askAt(0, 0));
        fails("transactionAt", NO_SUCH_NUMBER, x, () -> x.transactionAt(0, 0));
        fails("messageAt", NO_SUCH_NUMBER, x, () -> x.messageAt(0, 0));
        fails("jobAt", NO_SUCH_NUMBER, x, () -> x.jobAt(0, 0));
        fails("codeLength", NO_SUCH_NUMBER, x, () -> x.codeLength(0));
        fails("begin", NO_SUCH_NUMBER, x, () -> x.begin(0));
        fails("found", BAD_ARGUMENT, x, () -> x.found(1));
        Rangehold y = new Rangehold();
        x.pass(1);
        is("objects have nothing in common", y.count(0), 0);
    }

    private static void founding() {
        for (int members = 1; members < 32; members++) {
            Rangehold x = nodes(5);
            is("members of " + members, x.found(members), Integer.bitCount(members));
            is("the set", x.rangeAt(0, 7), members);
            is("all keys", x.rangeAt(0, 1) - x.rangeAt(0, 0), 32);
            for (int node = 0; node < 5; node++) {
                is("copies of " + node, x.nodeAt(node, 3), members >> node & 1);
            }
            is("copies have the base 0", x.copyAt(Integer.numberOfTrailingZeros(members), 0, 2), 0);
        }
        Rangehold x = nodes(3);
        x.stop(1, false);
        fails("found with a node that is down", BAD_ARGUMENT, x, () -> x.found(2));
        fails("found with one of them down", BAD_ARGUMENT, x, () -> x.found(7));
        is("found with the others", x.found(5), 2);
        fails("found again", BAD_STATE, x, () -> x.found(5));
        fails("found again with a node that is down", BAD_ARGUMENT, x, () -> x.found(2));
    }

    // the net

    /** Six READs as of a moment, sent to node 0. */
    private static Rangehold six() {
        Rangehold x = nodes(1);
        x.found(1);
        for (int i = 0; i < 6; i++) {
            x.readAsOf(0, 0, i, 0, 0);
        }
        return x;
    }

    private static void choices() {
        int[] choices = {0, 1, 5, 6, 7, 11, 12, 999, 1000};
        for (int choice : choices) {
            Rangehold x = six();
            is("lose", x.lose(choice), REQUEST);
            is("one is lost", x.count(11), 1);
            is("five are left", x.count(9), 5);
            for (int i = 0; i < 5; i++) {
                is("in their order", x.messageAt(i, 4), i < choice % 6 ? i : i + 1);
            }
            Rangehold y = six();
            is("twice", y.twice(choice), REQUEST);
            is("seven", y.count(9), 7);
            is("sent", y.count(10), 7);
            is("nothing is lost", y.count(11), 0);
            for (int i = 0; i < 7; i++) {
                is("a like one is behind all others", y.messageAt(i, 4), i < 6 ? i : choice % 6);
            }
            for (int what = 0; what <= 6; what++) {
                is("like", y.messageAt(6, what), y.messageAt(choice % 6, what));
            }
            Rangehold z = six();
            is("deliver", z.deliver(choice), REQUEST);
            is("its ANSWER came", z.count(9), 6);
            is("behind all others", z.messageAt(5, 0), ANSWER);
            is("its ask", z.messageAt(5, 4), choice % 6);
            for (int i = 0; i < 5; i++) {
                is("in their order", z.messageAt(i, 4), i < choice % 6 ? i : i + 1);
            }
            is("nothing is lost", z.count(11), 0);
        }
    }

    private static void told(Rangehold x, int message, long... due) {
        for (int what = 0; what < due.length; what++) {
            is("messageAt(" + message + ", " + what + ")", x.messageAt(message, what), due[what]);
        }
    }

    private static void kinds() {
        Rangehold x = nodes(3);
        x.found(7);
        x.pass(9);
        told(x, 0, CALL, 0, 1, 0, 1, NONE, 0);
        told(x, 1, CALL, 0, 2, 0, 1, NONE, 0);
        is("CALL", x.deliver(0), CALL);
        told(x, 1, VOTE, 1, 0, 0, 1, 1, 0);
        is("VOTE", x.deliver(1), VOTE);
        told(x, 1, ENTRIES, 0, 1, 0, 1, NONE, 1);
        x.lose(0);
        is("ENTRIES", x.deliver(0), ENTRIES);
        told(x, 1, GOT, 1, 0, 0, 1, 1, 0);
        is("GOT", x.deliver(1), GOT);
        hush(x);
        x.begin(1);
        x.write(0, 5, 50, 0, 2);
        told(x, 0, REQUEST, 1, 2, 0, 0, NONE, 0);
        is("REQUEST", x.deliver(0), REQUEST);
        told(x, 0, ANSWER, 2, 1, 0, 0, NONE, 0);
        is("ANSWER", x.deliver(0), ANSWER);
        x.compact(0, 0);
        x.pass(3);
        x.deliver(0);
        hush(x);
        x.pass(3);
        is("a BASE to the node that has nothing", message(x, BASE, 2) != NONE, true);
        told(x, message(x, BASE, 2), BASE, 0, 2, 0, 1, NONE, 0);
        is("BASE", x.deliver(message(x, BASE, 2)), BASE);
        told(x, x.count(9) - 1, GOT, 2, 0, 0, 1, 1, 0);
        is("SPLIT", answer(x, x.split(0, 16, 0, 0)), OK);
        x.pass(9);
        int it = x.count(9) - 1;
        is("the range of a message", x.messageAt(it, 3), 1);
        hush(x);
        x.stop(0, false);
        x.readAsOf(1, 0, 0, 0, 0);
        is("to a node that is down it has a kind, too", x.deliver(0), REQUEST);
        is("and does nothing", x.count(9), 0);
    }

    private static void fullTwice() {
        Rangehold x = nodes(1);
        x.found(1);
        for (int i = 0; i < 149; i++) {
            x.readAsOf(0, 0, 0, 0, 0);
        }
        is("twice", x.twice(3), REQUEST);
        is("150", x.count(9), 150);
        is("the 150th", x.messageAt(149, 4), 3);
        is("twice with a full net", x.twice(4), REQUEST);
        is("is lost as it is sent", x.count(9), 150);
        is("lost", x.count(11), 1);
        is("sent", x.count(10), 151);
        is("the last one is as it was", x.messageAt(149, 4), 3);
        is("the one that was chosen, too", x.messageAt(4, 4), 4);
    }

    /** What is sent once more is like it in all: a house in which only the like ones arrive goes on as one without them. */
    private static void likes() {
        Rangehold x = new Rangehold();
        Rangehold y = new Rangehold();
        for (Rangehold it : new Rangehold[] {x, y}) {
            boolean byLikes = it == y;
            for (int i = 0; i < 4; i++) {
                it.addNode(i - 1);
            }
            it.found(7);
            with(it, "tx ab{scan k v 0,32{s=s+v;}put 9,s;get x 30;put 3,x+1;give s;}");
            it.setKeeper(1, true);
            passBy(it, 12, byLikes);
            int first = it.begin(1);
            int leader = leader(it, 0);
            for (int key = 0; key < 32; key += 5) {
                it.write(first, key, 100 + key, 0, leader);
                passBy(it, 1, byLikes);
            }
            it.read(first, 30, 0, leader);
            passBy(it, 1, byLikes);
            it.scan(first, 0, 32, 0, leader);
            passBy(it, 1, byLikes);
            it.stop(3 - leader, false);
            it.end(first, true, 0, leader);
            passBy(it, 1, byLikes);
            it.run(2 - leader / 2, 0, 0, 0);
            it.run(leader, 0, 0, 0);
            it.asOf(0, Rangehold.LOOK, 800, 5, 0, leader);
            it.compact(leader, 0);
            it.change(leader, true, 3, 0, leader);
            passBy(it, 30, byLikes);
            it.start(3 - leader);
            it.split(leader, 16, 0, leader(it, 0));
            passBy(it, 40, byLikes);
            is("all is well", it.errors(), 0);
            is("asks", it.count(7) > 40, true);
        }
        String[] one = Snapshot.of(x).split("\n");
        String[] other = Snapshot.of(y).split("\n");
        is("lines", one.length, other.length);
        for (int i = 1; i < one.length && i < other.length; i++) {
            is(one[i] + " is " + other[i], one[i].equals(other[i]), true);
        }
        is("messages in the net", x.count(9), y.count(9));
    }

    private static void passBy(Rangehold x, int ticks, boolean byLikes) {
        for (int tick = 0; tick < ticks; tick++) {
            x.pass(1);
            for (int i = 0; i < 4000 && x.count(9) > 0; i++) {
                if (byLikes) {
                    x.twice(0);
                    x.lose(0);
                }
                x.deliver(byLikes ? x.count(9) - 1 : 0);
            }
        }
    }

    // time

    private static void passing() {
        Rangehold x = new Rangehold();
        is("pass", x.pass(1), 1);
        is("pass", x.pass(30), 31);
        is("the time", x.count(0), 31);
        Rangehold y = three();
        Rangehold z = three();
        y.readAsOf(0, 0, 0, 0, 0);
        z.readAsOf(0, 0, 0, 0, 0);
        y.pass(30);
        for (int i = 0; i < 30; i++) {
            z.pass(1);
        }
        is("30 ticks are 30 times a tick", Snapshot.of(y).equals(Snapshot.of(z)), true);
    }

    private static void settling() {
        Rangehold x = nodes(3);
        is("without ranges all is settled", x.settle(1), 0);
        x.found(7);
        is("not so many ticks as are needed", x.settle(8), 8);
        is("nobody leads", x.count(12), 0);
        is("one more", x.settle(40), 1);
        is("a LEADER", x.count(12), 1);
        is("the net is empty", x.count(9), 0);
        is("settled", x.settle(40), 0);
        int ask = x.readAsOf(0, 0, 0, 0, 0);
        is("an ask is answered without a tick", x.settle(40), 0);
        is("OK", x.askAt(ask, 3), OK);
        ask = x.readAsOf(1, 0, 0, 0, 0);
        x.lose(0);
        is("an ask without an answer: all ticks", x.settle(3), 3);
        x.stop(1, false);
        is("a LOST one is none", x.askAt(ask, 3), -5);
        is("settled", x.settle(40), 0);
        x.stop(0, false);
        is("a LEADER on a node that is down is none: all ticks, as two of three are down", x.settle(5), 5);
        x.start(1);
        int ticks = x.settle(40);
        is("until another one leads", x.count(12), 1);
        is("some ticks", ticks > 0 && ticks < 40, true);
        is("settled", x.settle(1), 0);
    }

    private static void settlingTheLastTick() {
        Rangehold x = nodes(3);
        x.found(7);
        is("nobody stands", x.settle(8), 8);
        is("the last tick", x.settle(1), 1);
        is("what it sent was delivered", x.count(9), 0);
        is("so there is a LEADER", x.count(12), 1);
        Rangehold y = alone();
        int ask = y.readAsOf(0, 0, 0, 0, 0);
        y.lose(0);
        is("the first ask", ask, 0);
        is("has no answer: all ticks", y.settle(7), 7);
    }

    private static void settlingJobs() {
        Rangehold x = with(alone(), "tx ab{give 1;}");
        x.run(0, 0, 0, 0);
        is("a job RUNS: all ticks", x.settle(6), 6);
        is("until it is DONE", x.settle(40), 1);
        is("DONE", x.jobAt(0, 0), Rangehold.DONE);
        is("settled", x.settle(40), 0);
        Rangehold y = alone();
        is("SPLIT", answer(y, y.split(0, 16, 0, 0)), OK);
        is("a range without a LEADER", y.settle(40), 9);
        is("two LEADERs", y.count(12), 2);
    }

    /** Delivers with ticks between, as settle() does, up to the 400th message. */
    private static void settlingMany() {
        Rangehold x = led(5);
        for (int i = 0; i < 150; i++) {
            x.readAsOf(0, 0, 0, 0, 1);
        }
        int before = x.count(10);
        is("150 REQUESTs and their ANSWERs: less than 400", x.settle(40), 0);
        is("all were delivered", x.count(9), 0);
        is("sent", x.count(10) - before, 150);
        Rangehold y = led(5);
        Rangehold z = led(5);
        for (int i = 0; i < 39; i++) {
            y.readAsOf(0, 0, 0, 0, 0);
            z.readAsOf(0, 0, 0, 0, 0);
        }
        is("with the 400th it ends", y.settle(40), 0);
        for (int i = 0; i < 400; i++) {
            z.deliver(0);
        }
        is("as by deliver()", Snapshot.of(y).equals(Snapshot.of(z)), true);
        is("some are left", y.count(9) > 0, true);
        y.settle(40);
        for (int i = 0; i < 400; i++) {
            z.deliver(0);
        }
        is("the next call goes on", Snapshot.of(y).equals(Snapshot.of(z)), true);
    }

    /** The 400th message ends it, though nothing would be left to deliver, and ticks are due. */
    private static void settlingJustSo() {
        Rangehold x = nodes(2);
        x.found(1);
        for (int i = 0; i < 150; i++) {
            x.readAsOf(0, 0, 0, 0, 1);
        }
        is("150 REQUESTs to a node without a copy, 150 ANSWERs, and 9 ticks till a LEADER", x.settle(40), 9);
        Rangehold y = nodes(2);
        y.found(1);
        for (int call = 0; call < 2; call++) {
            for (int i = 0; i < 100; i++) {
                y.readAsOf(0, 0, 0, 0, 1);
            }
            for (int i = 0; i < 50 && call == 1; i++) {
                y.twice(i);
            }
            is("ticks", y.settle(1), 1);
        }
        for (int i = 0; i < 100; i++) {
            y.readAsOf(1, 0, 0, 0, 1);
        }
        for (int i = 0; i < 50; i++) {
            y.twice(i);
        }
        is("messages", y.count(9), 150);
        int before = y.count(10);
        is("300 messages and a tick", y.settle(1), 1);
        is("of which 150 were sent", y.count(10) - before, 150);
    }

    private static int draw(int[] seed, int many) {
        seed[0] = seed[0] * 1103515245 + 12345;
        return (seed[0] >>> 16) % many;
    }

    private static void playing() {
        int[] seeds = {0, 1, -1, 12345, Integer.MAX_VALUE, Integer.MIN_VALUE, 987654321, -55555};
        for (int start : seeds) {
            for (int many = 1; many <= 150; many += many == 1 ? 1 : 37) {
                Rangehold x = busy();
                Rangehold y = busy();
                int[] seed = {start};
                for (int i = 0; i < many; i++) {
                    int act = draw(seed, 16);
                    int choice = draw(seed, 1000);
                    if (act <= 10) {
                        y.deliver(choice);
                    } else if (act == 11) {
                        y.lose(choice);
                    } else if (act == 12) {
                        y.twice(choice);
                    } else {
                        y.pass(1);
                    }
                }
                is("play", x.play(start, many), y.count(0));
                is("play is as its acts are", Snapshot.of(x).equals(Snapshot.of(y)), true);
            }
        }
    }

    private static Rangehold busy() {
        Rangehold x = with(three(), "tx ab{get x 1;put 2,x+1;put 3,5;}");
        x.setKeeper(0, true);
        x.run(0, 0, 0, 0);
        x.run(1, 0, 0, 0);
        for (int i = 0; i < 10; i++) {
            x.readAsOf(i % 3, 100 * i, i, 0, 0);
        }
        return x;
    }

    // counts

    private static void counts(String what, Rangehold x, long... due) {
        for (int i = 0; i < due.length; i += 2) {
            is(what + ": count(" + due[i] + ")", x.count((int) due[i]), due[i + 1]);
        }
    }

    private static void counting() {
        Rangehold x = nodes(3);
        counts("nodes", x, 1, 3, 2, 3, 3, 0, 12, 0, 13, 0);
        x.stop(2, false);
        counts("a node that is down", x, 1, 3, 2, 2);
        x.start(2);
        x.found(7);
        counts("a range", x, 3, 1, 12, 0, 13, 0);
        x.pass(9);
        counts("CALLs", x, 0, 9, 9, 2, 10, 2, 11, 0);
        calm(x);
        counts("a LEADER", x, 12, 1, 13, 1, 9, 0);
        int it = x.begin(0);
        x.end(x.begin(0), true, 0, 0);
        x.end(x.begin(0), false, 0, 0);
        counts("transactions", x, 4, 3, 5, 1, 6, 0, 7, 0);
        x.tell(2);
        counts("told", x, 6, 1);
        x.write(it, 1, 1, 0, 0);
        counts("an ask", x, 7, 1, 8, 1, 9, 1);
        calm(x);
        counts("an answer", x, 7, 1, 8, 0, 13, 2, 14, 0);
        is("END", answer(x, x.end(it, true, 0, 0)), OK);
        counts("committed", x, 5, 2, 6, 1, 13, 3);
        is("a read as of a moment", answer(x, x.readAsOf(0, 0, 0, 0, 0)), OK);
        is("a LOOK", answer(x, x.asOf(0, Rangehold.LOOK, 0, 0, 0, 1)), OK);
        is("a LOOK that is not OK", answer(x, x.asOf(0, Rangehold.LOOK, 1, 0, 0, 1)), Rangehold.UNKNOWN);
        is("a CLOSE", close(x, 1, 0), OK);
        is("a READ of a transaction", answer(x, x.read(x.begin(0), 9, 0, 0)), OK);
        counts("reads", x, 14, 2, 7, 7, 13, 6);
        is("SPLIT", answer(x, x.split(0, 16, 0, 0)), OK);
        x.settle(40);
        counts("two ranges", x, 3, 2, 12, 2, 13, 8);
        x.stop(0, false);
        is("LEADERs on nodes that are up", x.count(12) < 2, true);
        with(x, "tx ab{}tx cd{get x 1;}");
        put(x, "tx");
        counts("programs", x, 15, 0, 16, 0, 17, 2, 18, 2);
        x.run(1, 0, 0, 0);
        x.run(1, 1, 0, 0);
        counts("jobs", x, 15, 2, 16, 0);
        x.stop(1, false);
        counts("a LOST ask", x, 8, 0, 7, 9);
    }

    private static void countsOfTheFirst() {
        Rangehold x = with(alone(), "tx ab{give 1;}");
        int ask = x.readAsOf(0, 0, 0, 0, 0);
        counts("the first ask", x, 7, 1, 8, 1, 14, 0);
        is("OK", answer(x, ask), OK);
        counts("its answer", x, 8, 0, 14, 1);
        x.begin(0);
        x.end(0, true, 0, 0);
        counts("the first transaction", x, 4, 1, 5, 1, 6, 0);
        x.pass(8);
        x.tell(0);
        counts("told", x, 6, 1);
        x.run(0, 0, 0, 0);
        counts("the first job", x, 15, 1, 16, 0);
        x.pass(20);
        counts("DONE", x, 15, 1, 16, 1, 6, 2);
    }

    private static void lostCounts() {
        Rangehold x = six();
        x.lose(0);
        x.lose(0);
        counts("lost", x, 9, 4, 10, 6, 11, 2);
        x.stop(0, false);
        x.deliver(0);
        counts("what is delivered to a node that is down is not lost", x, 9, 3, 10, 6, 11, 2);
        for (int i = 0; i < 147; i++) {
            x.twice(0);
        }
        counts("full", x, 9, 150, 10, 153, 11, 2);
        x.twice(0);
        counts("lost as it was sent", x, 9, 150, 10, 154, 11, 3);
    }

    private static void shares() {
        Rangehold x = three();
        for (int i = 0; i < 3; i++) {
            is("OK", answer(x, x.readAsOf(0, 0, 0, 0, 0)), OK);
        }
        is("all", x.fineShare() == 1.0, true);
        is("NOT_LEADER", answer(x, x.readAsOf(0, 0, 0, 0, 1)), Rangehold.NOT_LEADER);
        is("3 of 4", x.fineShare() == 0.75, true);
        x.readAsOf(0, 0, 0, 0, 0);
        is("one without an answer counts as an ask", x.fineShare() == 3.0 / 5.0, true);
        hush(x);
        x.stop(0, false);
        is("a LOST one, too", x.fineShare() == 3.0 / 5.0, true);
        x.readAsOf(1, 0, 0, 0, 0);
        is("3 of 6", x.fineShare() == 0.5, true);
        x.readAsOf(1, 0, 0, 0, 0);
        is("as doubles are divided", x.fineShare() == (double) 3 / (double) 7, true);
    }

    private static void means() {
        Rangehold x = nodes(3);
        x.found(7);
        is("no entries", x.meanEntries() == 0.0f, true);
        x.pass(9);
        bring(x, CALL, 1);
        bring(x, VOTE, 0);
        is("1 of 3 copies", x.meanEntries() == 1.0f / 3.0f, true);
        calm(x);
        is("3 of 3", x.meanEntries() == 1.0f, true);
        x.compact(0, 0);
        is("2 of 3", x.meanEntries() == 2.0f / 3.0f, true);
        x.stop(1, false);
        is("copies on nodes that are down count", x.meanEntries() == 2.0f / 3.0f, true);
        x.stop(2, true);
        is("those of lost disks do not", x.meanEntries() == 0.5f, true);
        x.stop(0, true);
        x.start(1);
        x.stop(1, true);
        is("no copy", x.meanEntries() == 0.0f, true);
    }

    public static void main(String[] args) {
        newObject();
        founding();
        choices();
        kinds();
        fullTwice();
        likes();
        passing();
        settling();
        settlingTheLastTick();
        settlingJobs();
        settlingMany();
        settlingJustSo();
        playing();
        counting();
        countsOfTheFirst();
        lostCounts();
        shares();
        means();
        finish("TimeEdges");
    }
}
