/** The edges that section 12 names: when a keeper does something, and which of its acts is the first one. */
public final class KeeperEdges extends Checks {
    private static final int SPLIT = Rangehold.SPLIT, ADD = Rangehold.ADD, DROP = Rangehold.DROP, CLOSE = Rangehold.CLOSE, LEADER = Rangehold.LEADER;

    private static void passTo(Rangehold x, int time) {
        while (x.count(0) < time) {
            x.pass(1);
            calm(x);
        }
    }

    /** Lets a tick pass at which the keepers act, and tells the command of the ask that was made; NONE without one. */
    private static long act(Rangehold x) {
        int before = x.count(7);
        x.pass(1);
        is("a time that can be divided by 10", x.count(0) % 10, 0);
        return x.count(7) == before ? NONE : x.askAt(lastAsk(x), 0);
    }

    private static int lastAsk(Rangehold x) {
        return x.count(7) - 1;
    }

    // when

    private static void keeps() {
        Rangehold x = three();
        is("nobody keeps at first", x.setKeeper(0, false), false);
        is("still not", x.setKeeper(0, true), false);
        is("now", x.setKeeper(0, true), true);
        x.stop(0, true);
        is("also when it stopped", x.setKeeper(0, true), true);
        x.start(0);
        is("and started", x.setKeeper(0, false), true);
        is("till it is told otherwise", x.setKeeper(0, false), false);
        is("each node for itself", x.setKeeper(1, false), false);
    }

    private static void ticks() {
        Rangehold x = three();
        x.setKeeper(0, true);
        for (int time = 10; time <= 41; time++) {
            int before = x.count(7);
            x.pass(1);
            int due = time % 10 == 0 && time >= 20 ? 1 : 0;
            is("asks at the time " + time, x.count(7) - before, due);
            if (due == 1) {
                is("CLOSE", x.askAt(lastAsk(x), 0), CLOSE);
                is("sent to itself", x.messageAt(x.count(9) - 1, 2), 0);
                is("from itself", x.messageAt(x.count(9) - 1, 1), 0);
                is("the node that asks", x.askAt(lastAsk(x), 1), 0);
            }
            calm(x);
            is("800 * (what its clock shows - 13)", x.rangeAt(0, 8), time < 20 ? 0 : 800 * (time / 10 * 10 - 13));
        }
    }

    private static void who() {
        Rangehold x = three();
        x.setKeeper(1, true);
        x.setKeeper(2, true);
        passTo(x, 20);
        is("who is no LEADER asks nothing", x.count(7), 0);
        x.setKeeper(0, true);
        passTo(x, 29);
        is("the LEADER", act(x), CLOSE);
        calm(x);
        passTo(x, 39);
        x.stop(0, false);
        is("who is down asks nothing", act(x), NONE);
        Rangehold y = nodes(3);
        y.found(1);
        passTo(y, 9);
        is("SPLIT", answer(y, y.split(0, 16, 0, 0)), OK);
        passTo(y, 18);
        for (int i = 0; i < 3; i++) {
            y.setKeeper(2 - i, true);
        }
        passTo(y, 19);
        is("one ask at most of each one: the range 0", act(y), ADD);
        is("its range", y.askAt(lastAsk(y), 2), 0);
    }

    /** Two keepers, each LEADER of a range of its own, by ascending nodes. */
    private static void ascendingNodes() {
        Rangehold x = led(2);
        is("SPLIT", answer(x, x.split(0, 16, 0, 0)), OK);
        x.pass(3);
        calm(x);
        x.settle(40);
        is("DROP of node 0", answer(x, x.change(0, false, 0, 1, 0)), OK);
        passTo(x, x.count(0) + 20);
        is("node 0 leads the range 0", x.copyAt(0, 0, 1), LEADER);
        is("node 1 leads the range 1", x.copyAt(1, 1, 1), LEADER);
        passTo(x, (x.count(0) + 9) / 10 * 10 + 9);
        x.setKeeper(1, true);
        x.setKeeper(0, true);
        int before = x.count(7);
        is("the last ask is that of node 1", act(x), ADD);
        is("each one makes an ask", x.count(7) - before, 2);
        is("node 0 ahead", x.askAt(before, 1), 0);
        is("CLOSE", x.askAt(before, 0), CLOSE);
        is("of node 1", x.askAt(before + 1, 1), 1);
        is("of the range that it leads", x.askAt(before + 1, 2), 1);
    }

    private static void oneAtATime() {
        Rangehold x = three();
        x.setKeeper(0, true);
        passTo(x, 19);
        is("CLOSE", act(x), CLOSE);
        hush(x);
        x.pass(9);
        is("its latest ask has no answer", act(x), NONE);
        int ask = lastAsk(x);
        x.again(ask, 1);
        is("NOT_LEADER", ahead(x, ask), Rangehold.NOT_LEADER);
        x.pass(9);
        is("any answer will do", act(x), CLOSE);
        Rangehold z = alone();
        z.setKeeper(0, true);
        passTo(z, 19);
        is("CLOSE", act(z), CLOSE);
        z.stop(0, false);
        is("LOST", z.askAt(lastAsk(z), 3), -5);
        z.start(0);
        passTo(z, 29);
        is("what is LOST is in nobody's way", act(z), CLOSE);
        Rangehold y = three();
        y.setKeeper(0, true);
        y.readAsOf(0, 0, 0, 0, 0);
        y.lose(0);
        passTo(y, 19);
        is("an ask that it did not make as a keeper, neither", act(y), CLOSE);
    }

    private static void manyAsks() {
        for (int asks = 499; asks <= 500; asks++) {
            Rangehold x = three();
            x.setKeeper(0, true);
            passTo(x, 19);
            flood(x, asks);
            int messages = x.count(10);
            is("with " + asks + " asks", act(x), asks == 499 ? CLOSE : NONE);
            is("asks", x.count(7), 500);
            is("messages", x.count(10) - messages, 500 - asks);
        }
    }

    // CLOSE

    private static void closing() {
        int[] offsets = {-3, 0, 3};
        for (int offset : offsets) {
            for (int more = -1; more <= 0; more++) {
                Rangehold x = three();
                x.setKeeper(0, true);
                x.setClock(0, offset);
                long moment = 800 * (20 + offset - 13);
                passTo(x, 18);
                is("CLOSE", close(x, moment + more, 0), OK);
                passTo(x, 19);
                is("above the closed moment?", act(x), more < 0 ? CLOSE : NONE);
                calm(x);
                is("closed", x.rangeAt(0, 8), moment);
            }
        }
        Rangehold x = alone();
        x.addNode(0);
        x.addNode(0);
        x.setKeeper(0, true);
        x.setClock(0, 3);
        is("ahead of the time 14 there is no moment to close, but there are nodes to add", act(x), ADD);
        Rangehold y = three();
        y.setKeeper(0, true);
        y.setClock(0, 3);
        is("800 * (13 - 13) is not above 0", act(y), NONE);
    }

    // DROP

    private static void silent() {
        for (int ticks = 40; ticks <= 41; ticks++) {
            Rangehold x = three();
            passTo(x, 59 - ticks);
            while (x.count(0) < 60 - ticks) {
                x.pass(1);
            }
            x.readAsOf(0, 0, 0, 0, 0);
            bring(x, Rangehold.REQUEST, 0);
            calm(x);
            is("the last GOT", x.count(0), 60 - ticks);
            x.stop(2, false);
            passTo(x, 59);
            x.setKeeper(0, true);
            is(ticks + " ticks without a GOT", act(x), ticks == 41 ? DROP : CLOSE);
            calm(x);
            is("the members", x.rangeAt(0, 7), ticks == 41 ? 3 : 7);
        }
    }

    /** Without a GOT the ticks count from when it became the LEADER. */
    private static void silentFromTheFirst() {
        for (int late = 0; late <= 1; late++) {
            Rangehold x = nodes(3);
            if (late == 0) {
                x.pass(1);
            }
            x.found(7);
            x.stop(2, false);
            x.pass(9);
            calm(x);
            is("it leads", x.copyAt(0, 0, 1), LEADER);
            passTo(x, 49);
            is("40 or 41 ticks as the LEADER", x.count(0) + 1 - (10 - late), 40 + late);
            x.setKeeper(0, true);
            is("silent since it became the LEADER", act(x), late == 1 ? DROP : CLOSE);
        }
    }

    private static void silentFromTheAdd() {
        for (int late = 0; late <= 1; late++) {
            Rangehold x = three();
            x.addNode(0);
            x.stop(3, false);
            passTo(x, 20 - late);
            is("ADD of a node that is down", answer(x, x.change(0, true, 3, 0, 0)), OK);
            passTo(x, 59);
            x.setKeeper(0, true);
            is("silent since the ADD", act(x), late == 1 ? DROP : CLOSE);
            calm(x);
            is("members", x.rangeAt(0, 7), late == 1 ? 7 : 15);
        }
    }

    private static void drops() {
        Rangehold x = led(5);
        x.stop(1, false);
        x.stop(3, true);
        passTo(x, 59);
        x.setKeeper(0, true);
        is("DROP", act(x), DROP);
        calm(x);
        is("of the least silent one", x.rangeAt(0, 7), 29);
        passTo(x, x.count(0) + 9);
        is("DROP", act(x), DROP);
        calm(x);
        is("of the next one, whose disk is another one", x.rangeAt(0, 7), 21);
        passTo(x, x.count(0) + 9);
        is("3 members are enough", act(x), CLOSE);
        Rangehold y = led(2);
        y.stop(1, false);
        passTo(y, 59);
        y.setKeeper(0, true);
        is("2 members or more", act(y), DROP);
        calm(y);
        is("one is left", y.rangeAt(0, 7), 1);
        y.pass(9);
        is("who is not silent to itself, and nobody is up", act(y), CLOSE);
    }

    private static void dropsNodeZero() {
        Rangehold x = nodes(3);
        x.found(6);
        passTo(x, 20);
        is("node 1 leads", x.copyAt(1, 0, 1), LEADER);
        is("ADD of node 0", answer(x, x.change(1, true, 0, 0, 1)), OK);
        x.stop(0, false);
        passTo(x, 69);
        x.setKeeper(1, true);
        is("DROP", act(x), DROP);
        calm(x);
        is("of node 0", x.rangeAt(0, 7), 6);
    }

    /** One silent member, which is not the LEADER's own node: with 2 members it is dropped, as the only one it is not. */
    private static void dropsOfTwo() {
        for (int members = 1; members <= 2; members++) {
            Rangehold x = led(2);
            x.stop(1, false);
            passTo(x, 58);
            if (members == 1) {
                x.change(0, false, 0, 0, 0);
                calm(x);
            }
            is("members by its log", Integer.bitCount(x.copyAt(0, 0, 6)), members);
            passTo(x, 59);
            x.setKeeper(0, true);
            is("silent, of " + members, act(x), members == 2 ? DROP : ADD);
            is("the LEADER is none of them", x.copyAt(0, 0, 1), LEADER);
        }
    }

    // ADD

    private static void adds() {
        Rangehold x = nodes(5);
        x.found(4);
        passTo(x, 19);
        x.setKeeper(2, true);
        x.stop(0, false);
        is("ADD", act(x), ADD);
        calm(x);
        is("of the least node that is up", x.rangeAt(0, 7), 6);
        x.start(0);
        passTo(x, x.count(0) + 9);
        is("less than 3 members", act(x), ADD);
        calm(x);
        is("of the least one of which no disk is a member", x.rangeAt(0, 7), 7);
        passTo(x, x.count(0) + 9);
        is("3 are not less than 3", act(x), CLOSE);
        calm(x);
        Rangehold y = led(2);
        y.addNode(0);
        y.stop(1, true);
        y.start(1);
        passTo(y, 19);
        y.setKeeper(0, true);
        int ask = y.count(7);
        is("ADD", act(y), ADD);
        is("of node 2, as a disk of node 1 is a member", y.copyAt(0, 0, 6), 3);
        y.deliver(message(y, Rangehold.REQUEST, 0));
        is("the members by its log", y.copyAt(0, 0, 6), 7);
        is("asked for the range 0", y.askAt(ask, 2), 0);
        Rangehold z = led(2);
        passTo(z, 19);
        z.setKeeper(0, true);
        is("nobody to be added", act(z), CLOSE);
        z.addNode(0);
        z.stop(2, false);
        calm(z);
        passTo(z, z.count(0) + 9);
        is("nobody who is up", act(z), CLOSE);
    }

    // SPLIT

    /** Node 0 alone keeps from the time 20 on; what it holds is as the keys tell: intents of one transaction. */
    private static Rangehold holding(int... keys) {
        Rangehold x = alone();
        int it = x.begin(0);
        for (int key : keys) {
            is("a WRITE", answer(x, x.write(it, key, key, 0, 0)), OK);
        }
        is("CLOSE", close(x, 800 * 19, 0), OK);
        passTo(x, 19);
        x.setKeeper(0, true);
        return x;
    }

    private static int[] row(int first, int many) {
        int[] keys = new int[many];
        for (int i = 0; i < many; i++) {
            keys[i] = first + i;
        }
        return keys;
    }

    private static void splits(String what, Rangehold x, int key) {
        is(what, act(x), key == NONE ? NONE : SPLIT);
        if (key != NONE) {
            is(what + ": at the key", x.askAt(lastAsk(x), 6), key);
            calm(x);
            is(what + ": OK", x.askAt(lastAsk(x), 3), OK);
        }
    }

    private static void splitting() {
        splits("12 are not more than 12", holding(row(0, 12)), NONE);
        splits("13: 7 are at least half", holding(row(0, 13)), 7);
        splits("14: 7 are at least half", holding(row(0, 14)), 7);
        splits("the first key has none", holding(row(19, 13)), 26);
        splits("all keys", holding(row(0, 32)), 16);
        splits("two rows", holding(0, 1, 2, 3, 4, 5, 6, 25, 26, 27, 28, 29, 30, 31), 7);
        splits("two rows, one more behind", holding(0, 1, 2, 3, 4, 5, 6, 24, 25, 26, 27, 28, 29, 30, 31), 25);
    }

    /** Versions of one transaction, which is the first one. */
    private static void splittingFirstVersions() {
        Rangehold x = alone();
        int it = x.begin(0);
        for (int key = 4; key < 17; key++) {
            is("a WRITE", answer(x, x.write(it, key, 1, 0, 0)), OK);
        }
        is("END", answer(x, x.end(it, true, 0, 0)), OK);
        for (int key = 4; key < 17; key++) {
            resolveAll(x, it, 0, key);
        }
        is("13 versions", x.rangeAt(0, 4), 13);
        passTo(x, 19);
        x.setKeeper(0, true);
        splits("7 of them are ahead of", x, 11);
    }

    /** Versions count, too, and one key can have many of them. */
    private static void splittingVersions() {
        int[] keys = {0, 30, 31};
        for (int key : keys) {
            Rangehold x = alone();
            for (int i = 0; i < 12; i++) {
                settled(x, 0, key, i);
            }
            is("12 versions", x.rangeAt(0, 4), 12);
            is("CLOSE", close(x, 800 * 19, 0), OK);
            passTo(x, 19);
            x.setKeeper(0, true);
            is("are not more than 12", act(x), NONE);
            is("an intent", answer(x, x.write(x.begin(0), 31, 1, 0, 0)), OK);
            is("CLOSE", close(x, 800 * 30, 0), OK);
            passTo(x, 29);
            int due = key == 31 ? NONE : key + 1;
            splits("with an intent there are 13, most of them on the key " + key, x, due);
            is("ranges", x.count(3), due == NONE ? 1 : 2);
        }
    }

    /** If the key is not in the range, the next one of what a keeper does is done. */
    private static void splittingAtTheEnd() {
        Rangehold x = alone();
        for (int i = 0; i < 13; i++) {
            settled(x, 0, 31, i);
        }
        passTo(x, 19);
        x.setKeeper(0, true);
        is("CLOSE, as 32 is not in the range", act(x), CLOSE);
        Rangehold y = alone();
        for (int i = 0; i < 13; i++) {
            settled(y, 0, 15, i);
            y.compact(0, 0);
        }
        is("SPLIT", answer(y, y.split(0, 16, 0, 0)), OK);
        passTo(y, 19);
        y.setKeeper(0, true);
        is("CLOSE, as 16 is not in the range", act(y), CLOSE);
    }

    private static void splittingNumbers() {
        for (int numbers = 7; numbers <= 8; numbers++) {
            Rangehold x = holding(row(0, 13));
            for (int i = 1; i < numbers; i++) {
                x.split(0, 31, 0, 0);
                x.lose(x.count(9) - 1);
            }
            is(numbers + " ranges have numbers", act(x), numbers == 7 ? SPLIT : NONE);
            is("so there are no numbers left", Calls.answer(x, "split", 0, 5, 0, 0).equals("IllegalStateException"), true);
        }
    }

    /** The state is that of the LEADER's copy, not the agreed one: what is not carried out there does not count. */
    private static void ownState() {
        Rangehold x = three();
        int it = x.begin(0);
        for (int key = 0; key < 12; key++) {
            is("a WRITE", answer(x, x.write(it, key, 1, 0, 0)), OK);
        }
        passTo(x, 18);
        int write = x.write(it, 12, 1, 0, 0);
        bring(x, Rangehold.REQUEST, 0);
        hush(x);
        x.setKeeper(0, true);
        x.pass(1);
        hush(x);
        is("12 were carried out", act(x), CLOSE);
        is("the WRITE has no answer", x.askAt(write, 3), NONE);
    }

    // the order of the acts

    private static void order() {
        Rangehold x = led(2);
        x.addNode(0);
        int it = x.begin(0);
        for (int key = 0; key < 13; key++) {
            is("a WRITE", answer(x, x.write(it, key, 1, 0, 0)), OK);
        }
        x.pass(3);
        calm(x);
        is("SPLIT", answer(x, x.split(0, 20, 0, 0)), OK);
        x.pass(3);
        calm(x);
        x.stop(1, false);
        passTo(x, 69);
        x.setKeeper(0, true);
        is("first DROP", act(x), DROP);
        calm(x);
        passTo(x, x.count(0) + 9);
        is("then ADD", act(x), ADD);
        calm(x);
        is("members", x.rangeAt(0, 7), 5);
        x.stop(2, false);
        x.start(2);
        passTo(x, x.count(0) + 9);
        x.start(1);
        is("ADD again", act(x), ADD);
        calm(x);
        passTo(x, x.count(0) + 9);
        is("then SPLIT", act(x), SPLIT);
        calm(x);
        passTo(x, x.count(0) + 9);
        is("then CLOSE", act(x), CLOSE);
        is("of the range 0", x.askAt(lastAsk(x), 2), 0);
    }

    /** The first range of which something is to be done comes first, whatever it is. */
    private static void orderOfRanges() {
        Rangehold x = alone();
        is("SPLIT", answer(x, x.split(0, 16, 0, 0)), OK);
        passTo(x, 18);
        int it = x.begin(0);
        for (int key = 16; key < 29; key++) {
            is("a WRITE", answer(x, x.write(it, key, 1, 1, 0)), OK);
        }
        passTo(x, 19);
        x.setKeeper(0, true);
        is("CLOSE of the range 0", act(x), CLOSE);
        is("ahead of a SPLIT of the range 1", x.askAt(lastAsk(x), 2), 0);
        calm(x);
        passTo(x, 28);
        is("CLOSE", close(x, 800 * 17, 0), OK);
        passTo(x, 29);
        is("with nothing to be done there", act(x), SPLIT);
        is("it is the turn of the range 1", x.askAt(lastAsk(x), 2), 1);
        is("at", x.askAt(lastAsk(x), 6), 23);
    }

    /** The keepers act behind the jobs. */
    private static void behindJobs() {
        Rangehold x = with(led(3), "tx ab{get x 1;}");
        passTo(x, 14);
        x.setKeeper(0, true);
        x.run(2, 0, 0, 0);
        hush(x);
        x.pass(5);
        hush(x);
        x.pass(1);
        is("the job's REQUEST is sent again", x.messageAt(x.count(9) - 2, 0), Rangehold.REQUEST);
        is("from its node", x.messageAt(x.count(9) - 2, 1), 2);
        is("the keeper's is behind it", x.askAt(x.messageAt(x.count(9) - 1, 4), 0), CLOSE);
    }

    public static void main(String[] args) {
        keeps();
        ticks();
        who();
        ascendingNodes();
        oneAtATime();
        manyAsks();
        closing();
        silent();
        silentFromTheFirst();
        silentFromTheAdd();
        drops();
        dropsNodeZero();
        dropsOfTwo();
        adds();
        splitting();
        splittingFirstVersions();
        splittingVersions();
        splittingAtTheEnd();
        splittingNumbers();
        ownState();
        order();
        orderOfRanges();
        behindJobs();
        finish("KeeperEdges");
    }
}
