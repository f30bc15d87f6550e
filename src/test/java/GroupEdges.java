/** The edges that the sections 5, 6 and 8 name: elections, logs, bases, members, asks, and what is agreed. */
public final class GroupEdges extends Checks {
    private static final int FOLLOWER = Rangehold.FOLLOWER, CANDIDATE = Rangehold.CANDIDATE, LEADER = Rangehold.LEADER;
    private static final int CALL = Rangehold.CALL, VOTE = Rangehold.VOTE, ENTRIES = Rangehold.ENTRIES, BASE = Rangehold.BASE, GOT = Rangehold.GOT;
    private static final int REQUEST = Rangehold.REQUEST, ANSWER = Rangehold.ANSWER;
    private static final int NOT_LEADER = Rangehold.NOT_LEADER, NO_COPY = Rangehold.NO_COPY, LATER = Rangehold.LATER, FULL = Rangehold.FULL;

    private static int role(Rangehold x, int node) {
        return x.copyAt(node, 0, 1);
    }

    private static int term(Rangehold x, int node) {
        return x.copyAt(node, 0, 0);
    }

    private static int last(Rangehold x, int node) {
        return x.copyAt(node, 0, 3);
    }

    private static int mark(Rangehold x, int node) {
        return x.copyAt(node, 0, 4);
    }

    private static int voted(Rangehold x, int node) {
        return x.copyAt(node, 0, 5);
    }

    /** The message that was sent last says this. */
    private static void said(Rangehold x, String what, int kind, int yes, int term) {
        int it = x.count(9) - 1;
        is(what + ": the kind", x.messageAt(it, 0), kind);
        is(what + ": yes or no", x.messageAt(it, 5), yes);
        is(what + ": the term", x.messageAt(it, 4), term);
    }

    private static int ask(Rangehold x, int to) {
        return x.readAsOf(0, 0, 0, 0, to);
    }

    /** Lets entries come into the log of a LEADER, of which no other copy hears. */
    private static void appendAlone(Rangehold x, int leader, int many) {
        for (int i = 0; i < many; i++) {
            int it = ask(x, leader);
            int before = x.count(9);
            for (int j = 0; j < before; j++) {
                if (x.messageAt(j, 0) == REQUEST && x.messageAt(j, 4) == it) {
                    x.deliver(j);
                    break;
                }
            }
            while (x.count(9) >= before) {
                x.lose(x.count(9) - 1);
            }
        }
    }

    // ticks and elections

    private static void standing() {
        for (int node = 0; node < 5; node++) {
            Rangehold x = nodes(5);
            x.found(1 << node);
            x.pass(8 + 3 * node);
            is("node " + node + " does not stand ahead of more than its ticks", x.copyAt(node, 0, 1), FOLLOWER);
            is("its term", term(x, node), 0);
            is("it voted for nobody", voted(x, node), NONE);
            x.pass(1);
            is("then it is the LEADER at once, as a majority alone", role(x, node), LEADER);
            is("its term", term(x, node), 1);
            is("it voted for itself", voted(x, node), node);
            is("it sent nothing", x.count(10), 0);
            is("its entry NOTHING is agreed on", x.rangeAt(0, 3), 1);
            is("its mark", mark(x, node), 1);
        }
        Rangehold x = nodes(1);
        x.pass(5);
        x.found(1);
        x.pass(8);
        is("the copies are in touch when the group is founded", role(x, 0), FOLLOWER);
        x.pass(1);
        is("not ahead of it", role(x, 0), LEADER);
        x.stop(0, false);
        x.pass(20);
        is("a copy on a node that is down does not stand", term(x, 0), 1);
        x.start(0);
        is("a started copy is a FOLLOWER", role(x, 0), FOLLOWER);
        x.pass(8);
        is("in touch when it started", role(x, 0), FOLLOWER);
        x.pass(1);
        is("it stands behind 8 ticks", role(x, 0), LEADER);
        is("by the next term", term(x, 0), 2);
    }

    private static void majorities() {
        int[] othersNeeded = {0, 0, 1, 1, 2, 2};
        for (int members = 2; members <= 5; members++) {
            Rangehold x = nodes(members);
            x.found((1 << members) - 1);
            x.pass(9);
            is("a CANDIDATE of " + members, role(x, 0), CANDIDATE);
            is("calls all others", x.count(9), members - 1);
            for (int i = 0; i < members - 1; i++) {
                is("by ascending nodes", x.messageAt(i, 2), i + 1);
                is("a CALL", x.messageAt(i, 0), CALL);
                is("of the next term", x.messageAt(i, 4), 1);
            }
            for (int i = 1; i <= othersNeeded[members]; i++) {
                is("without a majority it is no LEADER", role(x, 0), CANDIDATE);
                bring(x, CALL, i);
                said(x, "a VOTE", VOTE, 1, 1);
                bring(x, VOTE, 0);
            }
            is("with " + othersNeeded[members] + " others it is the LEADER", role(x, 0), LEADER);
            is("with an entry NOTHING", x.entryAt(0, 0, 1, 1), Rangehold.NOTHING);
            hush(x);
            x.pass(3);
            for (int i = 1; i <= othersNeeded[members]; i++) {
                is("what no majority has is not agreed on", mark(x, 0), 0);
                bring(x, ENTRIES, i);
                bring(x, GOT, 0);
            }
            is("what a majority of " + members + " has is agreed on", mark(x, 0), 1);
        }
    }

    private static void votesCountOnce() {
        Rangehold x = nodes(4);
        x.found(15);
        x.pass(9);
        bring(x, CALL, 1);
        x.twice(message(x, VOTE, 0));
        bring(x, VOTE, 0);
        bring(x, VOTE, 0);
        is("a yes that comes twice counts once", role(x, 0), CANDIDATE);
        bring(x, CALL, 2);
        bring(x, VOTE, 0);
        is("another yes", role(x, 0), LEADER);
        int entries = last(x, 0);
        bring(x, CALL, 3);
        while (x.count(9) > 1) {
            x.lose(0);
        }
        bring(x, VOTE, 0);
        is("a VOTE for a LEADER does nothing", last(x, 0), entries);
        is("and sends nothing", x.count(9), 0);
    }

    private static void standsAgain() {
        Rangehold x = nodes(2);
        x.found(3);
        x.pass(9);
        is("a CANDIDATE", role(x, 0), CANDIDATE);
        bring(x, CALL, 1);
        x.pass(8);
        is("in touch when it stood", term(x, 0), 1);
        is("node 1, too, when it voted yes", role(x, 1), FOLLOWER);
        x.pass(1);
        is("it stands again", term(x, 0), 2);
        is("still a CANDIDATE", role(x, 0), CANDIDATE);
        bring(x, VOTE, 0);
        is("a yes of an older term does nothing", role(x, 0), CANDIDATE);
        x.pass(3);
        is("node 1 stands more than 11 ticks behind its yes", role(x, 1), CANDIDATE);
        is("by its next term", term(x, 1), 2);
        bring(x, CALL, 0);
        said(x, "the other one voted for itself in this term", VOTE, 0, 2);
        bring(x, VOTE, 1);
        is("a no is no yes", role(x, 1), CANDIDATE);
    }

    private static void votedForAnother() {
        Rangehold x = nodes(5);
        x.found(31);
        x.pass(9);
        x.twice(message(x, CALL, 3));
        x.pass(3);
        is("two CANDIDATEs", role(x, 1), CANDIDATE);
        is("of one term", term(x, 1), 1);
        int it = x.count(9);
        for (int i = 0; i < it; i++) {
            if (x.messageAt(i, 1) == 1 && x.messageAt(i, 2) == 2) {
                x.deliver(i);
                break;
            }
        }
        said(x, "voted for nobody", VOTE, 1, 1);
        is("it voted for node 1", voted(x, 2), 1);
        bring(x, CALL, 2);
        said(x, "voted for another one", VOTE, 0, 1);
        is("it voted for node 1 still", voted(x, 2), 1);
        x.stop(2, false);
        x.start(2);
        is("for whom it voted is on its disk", voted(x, 2), 1);
        bring(x, CALL, 3);
        said(x, "voted for nobody", VOTE, 1, 1);
        bring(x, CALL, 3);
        said(x, "voted for this one", VOTE, 1, 1);
        is("it voted for node 0", voted(x, 3), 0);
    }

    /** Node 2 lacks two entries that node 1 has, and stands; node 0 is down. */
    private static void callsWithLess() {
        Rangehold x = three();
        ask(x, 0);
        ask(x, 0);
        bring(x, REQUEST, 0);
        bring(x, REQUEST, 0);
        while (message(x, ENTRIES, 2) != NONE) {
            x.lose(message(x, ENTRIES, 2));
        }
        calm(x);
        is("node 1 has more", last(x, 1), 3);
        is("than node 2", last(x, 2), 1);
        x.stop(0, false);
        x.stop(1, false);
        x.pass(15);
        is("node 2 stands", role(x, 2), CANDIDATE);
        is("by the next term", term(x, 2), 2);
        x.start(1);
        bring(x, CALL, 1);
        said(x, "the same last term, a lesser index", VOTE, 0, 2);
        is("the term is told all the same", term(x, 1), 2);
        is("it voted for nobody", voted(x, 1), NONE);
        hush(x);
        x.pass(11);
        is("it was in touch when it started", role(x, 1), FOLLOWER);
        x.pass(1);
        is("more than 11 ticks ago", role(x, 1), CANDIDATE);
        bring(x, CALL, 2);
        said(x, "the same last term, a greater index", VOTE, 1, 3);
        is("a CANDIDATE that hears of a greater term is a FOLLOWER", role(x, 2), FOLLOWER);
        is("of this term", term(x, 2), 3);
    }

    /** A VOTE no does not touch: what started 5 ticks earlier stands 5 ticks earlier. */
    private static void noDoesNotTouch() {
        Rangehold x = three();
        ask(x, 0);
        bring(x, REQUEST, 0);
        bring(x, ENTRIES, 1);
        hush(x);
        x.stop(0, false);
        x.stop(1, false);
        x.pass(10);
        x.start(1);
        x.pass(5);
        is("node 2 stands", role(x, 2), CANDIDATE);
        bring(x, CALL, 1);
        said(x, "node 1 has more", VOTE, 0, 2);
        hush(x);
        x.pass(6);
        is("node 1 is in touch as of its start", role(x, 1), FOLLOWER);
        x.pass(1);
        is("and stands", role(x, 1), CANDIDATE);
        is("by its next term", term(x, 1), 3);
    }

    /** Node 0 has many entries of the term 1 alone, node 1 a few of the term 2. */
    private static Rangehold fork() {
        Rangehold x = three();
        appendAlone(x, 0, 5);
        is("node 0 has", last(x, 0), 6);
        x.stop(0, false);
        x.pass(12);
        calm(x);
        is("node 1 leads", role(x, 1), LEADER);
        is("by the term 2", term(x, 1), 2);
        is("it has", last(x, 1), 2);
        return x;
    }

    private static void callsByTerms() {
        Rangehold x = fork();
        x.stop(2, false);
        x.stop(1, false);
        x.start(1);
        hush(x);
        x.pass(10);
        x.start(0);
        x.pass(2);
        is("node 1 stands", role(x, 1), CANDIDATE);
        bring(x, CALL, 0);
        said(x, "a last term above, a lesser index", VOTE, 1, 3);
        is("it voted for it", voted(x, 0), 1);
        hush(x);
        x.pass(9);
        is("node 0 stands", term(x, 0), 4);
        bring(x, CALL, 1);
        said(x, "a last term below, a greater index", VOTE, 0, 4);
        is("it voted for nobody", voted(x, 1), NONE);
    }

    private static void lesserTerms() {
        Rangehold x = nodes(3);
        x.found(7);
        x.pass(9);
        x.pass(9);
        is("node 0 stood twice", term(x, 0), 2);
        int late = NONE;
        for (int i = 0; i < x.count(9); i++) {
            late = x.messageAt(i, 2) == 2 && x.messageAt(i, 1) == 0 && x.messageAt(i, 4) == 2 ? i : late;
        }
        x.deliver(late);
        said(x, "the newer CALL", VOTE, 1, 2);
        bring(x, CALL, 2);
        said(x, "the older one, with the copy's term", VOTE, 0, 2);
        is("its vote stays", voted(x, 2), 0);
        bring(x, VOTE, 0);
        is("node 0 leads", role(x, 0), LEADER);
        Rangehold y = fork();
        y.stop(1, false);
        y.start(0);
        y.stop(0, false);
        y.start(0);
        hush(y);
        y.pass(9);
        is("node 0 stands by the term 2", term(y, 0), 2);
        is("node 2 has it, too", term(y, 2), 2);
        bring(y, CALL, 2);
        said(y, "it voted for node 1 in this term", VOTE, 0, 2);
    }

    /** A LEADER of the term 1 goes on, while the others have the term 2. */
    private static void oldLeader() {
        Rangehold x = three();
        x.pass(2);
        x.pass(1);
        is("ENTRIES of the term 1", messages(x, ENTRIES, 1) + messages(x, ENTRIES, 2), 2);
        x.twice(message(x, ENTRIES, 2));
        x.stop(0, false);
        is("nobody hears of them", x.count(9), 3);
        x.pass(9);
        bring(x, CALL, 2);
        bring(x, VOTE, 1);
        is("node 1 leads by the term 2", role(x, 1), LEADER);
        bring(x, ENTRIES, 2);
        said(x, "ENTRIES of a lesser term", GOT, 0, 2);
        is("the copy is as it was", last(x, 2), 1);
        x.start(0);
        is("node 0 has the term 1", term(x, 0), 1);
        x.lose(x.count(9) - 1);
        bring(x, ENTRIES, 2);
        int got = x.count(9) - 1;
        is("a GOT of a greater term", x.messageAt(got, 4), 2);
        x.deliver(got);
        is("raises the term", term(x, 0), 2);
        is("it voted for nobody in it", voted(x, 0), NONE);
        Rangehold y = three();
        y.pass(3);
        y.stop(1, false);
        bring(y, ENTRIES, 2);
        calm(y);
        y.pass(1);
        is("a LEADER", role(y, 0), LEADER);
        y.stop(0, false);
        y.pass(15);
        is("node 2 stood", term(y, 2), 2);
        y.start(0);
        hush(y);
        y.pass(9);
        is("node 0 stood", term(y, 0), 2);
    }

    /** A LEADER becomes a FOLLOWER by a greater term, and is in touch as of its last tick. */
    private static void leaderFollows() {
        Rangehold x = three();
        for (int i = 0; i < 14; i++) {
            x.pass(1);
            hush(x);
        }
        is("node 1 stood", role(x, 1), CANDIDATE);
        is("by the term 2", term(x, 1), 2);
        is("node 0 leads by the term 1", role(x, 0), LEADER);
        x.pass(1);
        is("the LEADER sends", message(x, ENTRIES, 1) != NONE, true);
        bring(x, ENTRIES, 1);
        said(x, "to a CANDIDATE of a greater term", GOT, 0, 2);
        is("which stays one", role(x, 1), CANDIDATE);
        bring(x, GOT, 0);
        is("a LEADER that hears of a greater term is a FOLLOWER", role(x, 0), FOLLOWER);
        is("of this term", term(x, 0), 2);
        is("voted for nobody", voted(x, 0), NONE);
        hush(x);
        x.pass(8);
        is("it was in touch", role(x, 0), FOLLOWER);
        hush(x);
        x.pass(1);
        is("8 ticks ago", role(x, 0), CANDIDATE);
    }

    private static void candidateFollows() {
        Rangehold x = nodes(5);
        x.found(31);
        x.pass(9);
        bring(x, CALL, 2);
        bring(x, CALL, 3);
        bring(x, CALL, 4);
        x.pass(3);
        is("node 1 is a CANDIDATE of the term 1, too", role(x, 1), CANDIDATE);
        while (message(x, VOTE, 0) != NONE) {
            bring(x, VOTE, 0);
        }
        is("node 0 leads", role(x, 0), LEADER);
        bring(x, ENTRIES, 1);
        is("ENTRIES of its own term make a CANDIDATE a FOLLOWER", role(x, 1), FOLLOWER);
        is("it voted for itself", voted(x, 1), 1);
        is("it has them", last(x, 1), 1);
        hush(x);
        x.stop(0, false);
        x.pass(11);
        is("ENTRIES touch", role(x, 1), FOLLOWER);
        x.pass(1);
        is("12 ticks ago", role(x, 1), CANDIDATE);
    }

    // logs

    private static void sendsAtTicks() {
        Rangehold x = three();
        for (int time = 10; time <= 18; time++) {
            x.pass(1);
            boolean isDue = time % 3 == 0;
            is("messages at the time " + time, x.count(9), isDue ? 2 : 0);
            for (int i = 0; i < x.count(9); i++) {
                is("by ascending nodes", x.messageAt(i, 2), i + 1);
                is("ENTRIES", x.messageAt(i, 0), ENTRIES);
                is("without entries", x.messageAt(i, 6), 0);
            }
            calm(x);
        }
    }

    private static void fourEntries() {
        for (int lacks = 1; lacks <= 9; lacks++) {
            Rangehold x = three();
            x.stop(2, false);
            for (int i = 0; i < lacks; i++) {
                is("a READ", answer(x, ask(x, 0)), OK);
            }
            x.start(2);
            x.pass(3);
            int left = lacks;
            while (left > 0) {
                int it = message(x, ENTRIES, 2);
                is("entries of " + left + " that it lacks", x.messageAt(it, 6), Math.min(4, left));
                left -= Math.min(4, left);
                x.deliver(it);
                said(x, "it has the one ahead", GOT, 1, 1);
                is("it has", last(x, 2), 1 + lacks - left);
                bring(x, GOT, 0);
                is("it is sent what it lacks", message(x, ENTRIES, 2) != NONE, left > 0);
            }
        }
    }

    /** What a copy has otherwise goes, with all behind it. */
    private static void replaced() {
        Rangehold x = fork();
        x.start(0);
        is("entries of the term 1", x.entryAt(0, 0, 2, 0), 1);
        x.pass(3);
        int it = message(x, ENTRIES, 0);
        is("ENTRIES", it != NONE, true);
        x.deliver(it);
        said(x, "the entry ahead is another one, or not there", GOT, 1, 2);
        is("all that stood behind is gone", last(x, 0), 2);
        is("the entry of the leader", x.entryAt(0, 0, 2, 0), 2);
        is("the one ahead stays", x.entryAt(0, 0, 1, 0), 1);
        calm(x);
        is("asks of entries that are gone have no answer", x.count(8), 0);
        Rangehold y = fork();
        for (int i = 0; i < 2; i++) {
            int more = y.readAsOf(1, 0, 0, 0, 1);
            is("a READ", answer(y, more), OK);
        }
        y.start(0);
        int fresh = y.readAsOf(1, 0, 0, 0, 1);
        while (y.count(9) > 1) {
            y.lose(0);
        }
        bring(y, REQUEST, 1);
        it = message(y, ENTRIES, 0);
        is("an entry behind one of another term", y.messageAt(it, 6) <= 4, true);
        calm(y);
        y.pass(3);
        calm(y);
        is("OK", y.askAt(fresh, 3), OK);
        is("the logs are alike", last(y, 0), last(y, 1));
        for (int i = 1; i <= last(y, 1); i++) {
            is("entry " + i, y.entryAt(0, 0, i, 0), y.entryAt(1, 0, i, 0));
            is("its ask", y.entryAt(0, 0, i, 2), y.entryAt(1, 0, i, 2));
        }
        is("errors", y.errors(), 0);
    }

    /** The entry ahead is one of another term: no, with the index ahead of it, and then all is sent from there on. */
    private static void unlikeAhead() {
        Rangehold x = fork();
        x.stop(2, false);
        x.stop(1, false);
        x.start(1);
        x.start(2);
        hush(x);
        x.pass(12);
        for (int i = 0; i < 100 && role(x, 1) != LEADER; i++) {
            x.deliver(0);
        }
        is("node 1 leads by the next term", term(x, 1), 3);
        is("its log", last(x, 1), 3);
        hush(x);
        x.start(0);
        x.pass(3);
        int it = message(x, ENTRIES, 0);
        is("one entry behind that of the term 2", x.messageAt(it, 6), 1);
        x.deliver(it);
        said(x, "the one ahead has another term there", GOT, 0, 3);
        is("its log stays", last(x, 0), 6);
        bring(x, GOT, 1);
        it = message(x, ENTRIES, 0);
        is("then what is behind the index that was told", x.messageAt(it, 6), 2);
        x.deliver(it);
        said(x, "the one ahead is the same", GOT, 1, 3);
        is("the log is that of the leader", last(x, 0), 3);
        is("the term of the second entry", x.entryAt(0, 0, 2, 0), 2);
        is("of the third one", x.entryAt(0, 0, 3, 0), 3);
    }

    /** ENTRIES that come late take nothing away; a mark does not sink, and is not above what was told. */
    private static void lateEntries() {
        Rangehold x = three();
        x.stop(2, false);
        for (int i = 0; i < 6; i++) {
            is("a READ", answer(x, ask(x, 0)), OK);
        }
        is("the leader's mark", mark(x, 0), 7);
        x.start(2);
        x.pass(3);
        int it = message(x, ENTRIES, 2);
        x.twice(it);
        x.deliver(it);
        is("the log has what was told", last(x, 2), 5);
        is("the mark is not above what was told", mark(x, 2), 5);
        bring(x, GOT, 0);
        it = x.count(9) - 1;
        is("the rest", x.messageAt(it, 6), 2);
        x.deliver(it);
        is("all", last(x, 2), 7);
        is("the mark", mark(x, 2), 7);
        bring(x, ENTRIES, 2);
        said(x, "the first ones once more", GOT, 1, 1);
        is("nothing is gone", last(x, 2), 7);
        is("the mark does not sink", mark(x, 2), 7);
        calm(x);
        is("errors", x.errors(), 0);
    }

    private static void marksFollow() {
        Rangehold x = three();
        int it = ask(x, 0);
        bring(x, REQUEST, 0);
        bring(x, ENTRIES, 1);
        is("the follower has it", last(x, 1), 2);
        is("but knows of no agreement so far", mark(x, 1), 1);
        is("the LEADER neither", mark(x, 0), 1);
        is("the range neither", x.rangeAt(0, 3), 1);
        bring(x, GOT, 0);
        is("a majority has it", mark(x, 0), 2);
        is("agreed on as soon as one copy carries it out", x.rangeAt(0, 3), 2);
        is("the ANSWER is sent", x.messageAt(message(x, ANSWER, 0), 4), it);
        calm(x);
        x.pass(3);
        bring(x, ENTRIES, 1);
        is("the mark of the LEADER is told", mark(x, 1), 2);
        is("not to others", mark(x, 2), 1);
    }

    /** Entries of an older term are agreed on with one of the own term alone, and only who appended an entry answers. */
    private static void olderTerms() {
        Rangehold x = three();
        int it = ask(x, 0);
        bring(x, REQUEST, 0);
        bring(x, ENTRIES, 1);
        bring(x, ENTRIES, 2);
        hush(x);
        x.stop(0, false);
        int home = x.count(8);
        is("the ask is LOST with its node", home, 0);
        int kept = x.readAsOf(2, 0, 0, 0, 1);
        is("NOT_LEADER", answer(x, kept), NOT_LEADER);
        x.pass(12);
        bring(x, CALL, 2);
        bring(x, VOTE, 1);
        is("node 1 leads", role(x, 1), LEADER);
        bring(x, ENTRIES, 2);
        is("the mark is as it was told", mark(x, 1), 1);
        bring(x, GOT, 1);
        is("the mark is at its own entry", mark(x, 1), 3);
        is("the older one was carried out", x.rangeAt(0, 3), 3);
        is("no ANSWER to what it did not append", message(x, ANSWER, 0), NONE);
        is("LOST", x.askAt(it, 3), -5);
    }

    private static void olderTermsAlone() {
        Rangehold x = three();
        x.readAsOf(1, 0, 0, 0, 0);
        bring(x, REQUEST, 0);
        bring(x, ENTRIES, 1);
        hush(x);
        x.stop(0, false);
        x.pass(12);
        bring(x, CALL, 2);
        bring(x, VOTE, 1);
        is("node 1 leads", role(x, 1), LEADER);
        is("it has the entry of the term 1", x.entryAt(1, 0, 2, 0), 1);
        int it = message(x, ENTRIES, 2);
        x.deliver(it);
        said(x, "node 2 lacks the one ahead", GOT, 0, 2);
        bring(x, GOT, 1);
        it = message(x, ENTRIES, 2);
        is("both entries", x.messageAt(it, 6), 2);
        x.deliver(it);
        is("not agreed on so far", x.rangeAt(0, 3), 1);
        bring(x, GOT, 1);
        is("both at once", x.rangeAt(0, 3), 3);
        is("the ask of node 1 has no answer: who appended it is down", x.count(8), 1);
        x.again(0, 1);
        is("sent again it has", answer(x, 0), OK);
        is("one more entry", x.rangeAt(0, 3), 4);
    }

    // compacting, bases

    private static void compactsItself() {
        Rangehold x = alone();
        for (int i = 0; i < 23; i++) {
            is("a READ", answer(x, ask(x, 0)), OK);
        }
        is("24 entries", x.copyAt(0, 0, 7), 24);
        x.pass(1);
        is("are not more than 24", x.copyAt(0, 0, 7), 24);
        is("the base", x.copyAt(0, 0, 2), 0);
        is("a READ", answer(x, ask(x, 0)), OK);
        is("no tick, no compacting", x.copyAt(0, 0, 7), 25);
        x.pass(1);
        is("25 are", x.copyAt(0, 0, 7), 0);
        is("the base", x.copyAt(0, 0, 2), 25);
        is("the last index", last(x, 0), 25);
        is("the mark", mark(x, 0), 25);
        for (int i = 0; i < 24; i++) {
            is("a READ", answer(x, ask(x, 0)), OK);
        }
        x.pass(1);
        is("24 behind a base are not more than 24", x.copyAt(0, 0, 7), 24);
        is("a READ", answer(x, ask(x, 0)), OK);
        x.pass(1);
        is("25 are", x.copyAt(0, 0, 7), 0);
        Rangehold y = three();
        for (int i = 0; i < 23; i++) {
            is("a READ", answer(y, ask(y, 0)), OK);
        }
        appendAlone(y, 0, 10);
        y.pass(1);
        is("of 34 entries 24 were carried out", y.copyAt(0, 0, 7), 34);
        y.pass(2);
        bring(y, ENTRIES, 1);
        bring(y, GOT, 0);
        is("now 28", mark(y, 0), 28);
        y.pass(1);
        is("what was not carried out stays", y.copyAt(0, 0, 7), 6);
        is("behind the base", y.copyAt(0, 0, 2), 28);
        is("its entries stay", y.entryAt(0, 0, 29, 1), Rangehold.READ);
        is("a follower compacts its own log by what it carried out", y.copyAt(1, 0, 2), 0);
    }

    private static void compactsByCall() {
        Rangehold x = three();
        appendAlone(x, 0, 3);
        is("compact of what was carried out", x.compact(0, 0), 1);
        is("the others stay", x.copyAt(0, 0, 7), 3);
        is("the base", x.copyAt(0, 0, 2), 1);
        is("compact again", x.compact(0, 0), 0);
        is("a follower carried out nothing so far", x.compact(1, 0), 0);
        is("its log stays", x.copyAt(1, 0, 7), 1);
        x.pass(3);
        calm(x);
        is("all asks have answers", x.count(8), 0);
        x.pass(3);
        calm(x);
        is("a follower", x.compact(1, 0), 4);
        is("its base", x.copyAt(1, 0, 2), 4);
        is("errors", x.errors(), 0);
        x.stop(1, false);
        is("a base is on the disk", x.copyAt(1, 0, 2), 4);
        is("the mark is at it", mark(x, 1), 4);
        x.start(1);
        is("also behind a start", mark(x, 1), 4);
        x.stop(2, false);
        is("a log is on the disk", last(x, 2), 4);
        is("the mark was in memory", mark(x, 2), 0);
    }

    /** A member that lacks what the leader's base has gets the base. */
    private static void sendsBase() {
        Rangehold x = three();
        settled(x, 0, 5, 50);
        x.pass(3);
        calm(x);
        x.stop(2, false);
        settled(x, 0, 6, 60);
        is("the last index of the leader", last(x, 0), 7);
        is("of node 2", last(x, 2), 4);
        is("compact", x.compact(0, 0), 7);
        x.start(2);
        x.pass(3);
        is("the next index of node 2 is not above the base", message(x, BASE, 2) != NONE, true);
        is("that of node 1 is", message(x, ENTRIES, 1) != NONE, true);
        int it = message(x, BASE, 2);
        is("a BASE has no entries", x.messageAt(it, 6), 0);
        is("its term", x.messageAt(it, 4), 1);
        x.twice(it);
        x.deliver(it);
        said(x, "a BASE", GOT, 1, 1);
        is("the base", x.copyAt(2, 0, 2), 7);
        is("the log", x.copyAt(2, 0, 7), 0);
        is("the mark", mark(x, 2), 7);
        is("its state", x.feedAt(2, 0, 0, 0, 0), 0);
        int look = x.asOf(2, Rangehold.LOOK, 0, 6, 0, 2);
        is("a look at its state", ahead(x, look), OK);
        is("CLOSE", ahead(x, x.asOf(0, Rangehold.CLOSE, 800 * 20, 0, 0, 0)), NONE);
        calm(x);
        is("it goes on behind the base", last(x, 2), 8);
        x.pass(3);
        calm(x);
        is("versions of the base and behind it", x.feedAt(2, 0, 0, 0, 0), 2);
        is("errors", x.errors(), 0);
    }

    private static void lateBase() {
        Rangehold x = three();
        x.stop(2, false);
        is("a READ", answer(x, ask(x, 0)), OK);
        is("compact", x.compact(0, 0), 2);
        x.start(2);
        x.pass(3);
        int it = message(x, BASE, 2);
        x.twice(it);
        x.deliver(it);
        for (int i = 0; i < 3; i++) {
            ahead(x, ask(x, 0));
        }
        while (message(x, ENTRIES, 2) != NONE) {
            bring(x, ENTRIES, 2);
        }
        while (message(x, GOT, 0) != NONE) {
            bring(x, GOT, 0);
        }
        while (message(x, ENTRIES, 2) != NONE) {
            bring(x, ENTRIES, 2);
        }
        int has = last(x, 2);
        is("it has more by now", has > 2, true);
        int messages = x.count(9);
        bring(x, BASE, 2);
        is("a BASE is answered", x.count(9), messages);
        said(x, "a mark that is not less than the index of the base", GOT, 1, 1);
        is("the log stays", last(x, 2), has);
        is("the base stays", x.copyAt(2, 0, 2), 2);
        calm(x);
        is("errors", x.errors(), 0);
    }

    /** A BASE at an index of which the copy has another entry: nothing of its log stays. */
    private static void baseOverFork() {
        Rangehold x = fork();
        x.readAsOf(1, 0, 0, 0, 1);
        calm(x);
        is("node 1 has", last(x, 1), 3);
        is("compact", x.compact(1, 0), 3);
        x.start(0);
        is("node 0 has entries of the term 1", last(x, 0), 6);
        x.pass(3);
        bring(x, BASE, 0);
        is("the base", x.copyAt(0, 0, 2), 3);
        is("the entries behind it are gone", last(x, 0), 3);
        is("the mark", mark(x, 0), 3);
        calm(x);
        is("errors", x.errors(), 0);
    }

    /** A log of more entries than any array begins with, of many terms, at its LEADER and at who gets it from there. */
    private static void longLogs() {
        Rangehold x = three();
        x.addNode(0);
        x.stop(2, false);
        for (int i = 0; i < 39; i++) {
            x.readAsOf(3, 0, 0, 0, 0);
            x.deliver(0);
            hush(x);
        }
        for (int i = 0; i < 70; i++) {
            x.stop(0, false);
            x.start(0);
            x.pass(9);
            bring(x, CALL, 1);
            bring(x, VOTE, 0);
            hush(x);
            is("entries", x.copyAt(0, 0, 7), 41 + i);
        }
        longLog(x, 0);
        x.pass(3);
        calm(x);
        longLog(x, 1);
        is("all is agreed on", x.rangeAt(0, 3), 110);
        is("as it was carried out", x.errors(), 0);
        x.start(2);
        x.pass(3);
        calm(x);
        is("a BASE for who was away", x.copyAt(2, 0, 2), 110);
        is("errors", x.errors(), 0);
    }

    private static void longLog(Rangehold x, int node) {
        for (int i = 1; i <= 110; i++) {
            is("the term of " + i, x.entryAt(node, 0, i, 0), i <= 40 ? 1 : i - 39);
            is("the ask of " + i, x.entryAt(node, 0, i, 2), i == 1 || i > 40 ? NONE : i - 2);
            is("the command of " + i, x.entryAt(node, 0, i, 1), i == 1 || i > 40 ? Rangehold.NOTHING : Rangehold.READ);
        }
    }

    /** Terms go along when a log is cut, also behind a base. */
    private static void cutLogs() {
        Rangehold x = three();
        is("a READ", answer(x, ask(x, 0)), OK);
        x.pass(3);
        calm(x);
        x.stop(0, false);
        x.start(0);
        x.pass(9);
        bring(x, CALL, 1);
        bring(x, VOTE, 0);
        is("node 0 leads by the term 2", term(x, 0), 2);
        bring(x, ENTRIES, 1);
        hush(x);
        is("node 1 has an entry of it", x.entryAt(1, 0, 3, 0), 2);
        is("compact", x.compact(1, 0), 2);
        is("its base", x.copyAt(1, 0, 2), 2);
        is("the entry behind it", x.entryAt(1, 0, 3, 0), 2);
        is("which is NOTHING", x.entryAt(1, 0, 3, 1), Rangehold.NOTHING);
        is("one entry", x.copyAt(1, 0, 7), 1);
        Rangehold y = three();
        is("a READ", answer(y, ask(y, 0)), OK);
        is("compact", y.compact(0, 0), 2);
        appendAlone(y, 0, 5);
        is("node 0 has", last(y, 0), 7);
        y.stop(0, false);
        y.pass(12);
        calm(y);
        is("node 1 has", last(y, 1), 3);
        y.start(0);
        y.pass(3);
        bring(y, ENTRIES, 0);
        is("what stood behind the base is gone", last(y, 0), 3);
        is("the entry of the term 2", y.entryAt(0, 0, 3, 0), 2);
        is("one entry", y.copyAt(0, 0, 7), 1);
        calm(y);
        is("errors", y.errors(), 0);
    }

    /** An ADD that is gone from the log with all behind it brings nobody. */
    private static void cutMembers() {
        Rangehold x = three();
        x.addNode(0);
        appendAlone(x, 0, 2);
        int add = x.change(1, true, 3, 0, 0);
        bring(x, REQUEST, 0);
        hush(x);
        is("a member by its log", x.copyAt(0, 0, 6), 15);
        appendAlone(x, 0, 1);
        is("entries", last(x, 0), 5);
        x.stop(0, false);
        x.pass(12);
        calm(x);
        is("node 1 leads", role(x, 1), LEADER);
        x.readAsOf(1, 0, 0, 0, 1);
        calm(x);
        x.start(0);
        x.pass(3);
        calm(x);
        is("the log of node 0", last(x, 0), 3);
        is("the ADD is gone", x.copyAt(0, 0, 6), 7);
        is("it was never agreed on", x.rangeAt(0, 7), 7);
        is("and has no answer", x.askAt(add, 3), NONE);
    }

    /** A BASE behind the base of a copy that has its entry: what is behind it stays. */
    private static void baseBehindBase() {
        Rangehold x = three();
        is("a READ", answer(x, ask(x, 0)), OK);
        x.pass(3);
        calm(x);
        is("node 2 lays its base", x.compact(2, 0), 2);
        for (int i = 0; i < 3; i++) {
            is("a READ", answer(x, ask(x, 0)), OK);
        }
        x.pass(3);
        calm(x);
        is("node 1, too, at another index", x.compact(1, 0), 5);
        is("a READ", answer(x, ask(x, 0)), OK);
        x.stop(2, false);
        is("a READ", answer(x, ask(x, 0)), OK);
        is("a READ", answer(x, ask(x, 0)), OK);
        x.stop(0, false);
        x.start(2);
        is("node 2 has", last(x, 2), 6);
        is("its mark is at its base", mark(x, 2), 2);
        x.pass(12);
        for (int i = 0; i < 100 && role(x, 1) != LEADER; i++) {
            x.deliver(0);
        }
        bring(x, ENTRIES, 2);
        said(x, "node 2 lacks the one ahead", GOT, 0, 2);
        while (x.count(9) > 1) {
            x.lose(0);
        }
        x.twice(0);
        x.twice(0);
        for (int i = 0; i < 3; i++) {
            bring(x, GOT, 1);
        }
        is("a GOT no that comes three times leads to the base", messages(x, BASE, 2), 1);
        bring(x, BASE, 2);
        said(x, "a BASE", GOT, 1, 2);
        is("the base", x.copyAt(2, 0, 2), 5);
        is("the mark", mark(x, 2), 5);
        is("what is behind it stays", last(x, 2), 6);
        is("one entry", x.copyAt(2, 0, 7), 1);
        calm(x);
        is("it gets the rest", last(x, 2), last(x, 1));
        is("errors", x.errors(), 0);
    }

    // disks and copies that are not there

    private static void lostDisks() {
        Rangehold x = three();
        x.pass(3);
        is("messages to the disks 0", x.count(9), 2);
        x.twice(message(x, ENTRIES, 2));
        x.stop(2, true);
        bring(x, ENTRIES, 2);
        is("a message to a node that is down does nothing", x.count(9), 2);
        x.start(2);
        bring(x, ENTRIES, 2);
        is("one to another disk of a node does nothing", x.count(9), 1);
        is("no copy came", x.nodeAt(2, 3), 0);
        calm(x);
        x.pass(3);
        bring(x, ENTRIES, 2);
        is("nor does a later one", messages(x, GOT, 0), 0);
        calm(x);
        is("the node is a member by its old disk still", x.copyAt(0, 0, 6), 7);
        is("ADD of the new disk", answer(x, x.change(0, true, 2, 0, 0)), LATER);
        is("DROP", answer(x, x.change(0, false, 2, 0, 0)), OK);
        is("two members", x.rangeAt(0, 7), 3);
        int add = x.change(0, true, 2, 0, 0);
        bring(x, REQUEST, 0);
        bring(x, ENTRIES, 2);
        said(x, "ENTRIES where no copy is", GOT, 0, 1);
        is("no copy by this", x.nodeAt(2, 3), 0);
        bring(x, GOT, 0);
        bring(x, BASE, 2);
        is("a BASE makes a copy", x.nodeAt(2, 3), 1);
        is("with the term that is told", term(x, 2), 1);
        is("ADD", answer(x, add), OK);
        is("errors", x.errors(), 0);
    }

    /** A disk with another number is a member as any other one: it stands, votes and leads. */
    private static void laterDisks() {
        Rangehold x = nodes(3);
        for (int node = 0; node < 3; node++) {
            for (int i = 0; i <= node; i++) {
                x.stop(node, true);
                x.start(node);
            }
        }
        x.found(7);
        x.pass(9);
        is("it stands", role(x, 0), CANDIDATE);
        is("for whom it voted", voted(x, 0), 0);
        is("its CALL comes from", x.messageAt(0, 1), 0);
        is("and goes to", x.messageAt(1, 2), 2);
        bring(x, CALL, 2);
        is("voted for", voted(x, 2), 0);
        is("the VOTE comes from", x.messageAt(x.count(9) - 1, 1), 2);
        bring(x, VOTE, 0);
        is("it leads", role(x, 0), LEADER);
        is("a READ", answer(x, ask(x, 0)), OK);
        is("members", x.rangeAt(0, 7), 7);
        is("ADD of one that is there", answer(x, x.change(0, true, 1, 0, 0)), OK);
    }

    /** What is made by a BASE has the term 0, and nothing of what was on the old disk. */
    private static void freshCopies() {
        Rangehold x = three();
        for (int i = 0; i < 2; i++) {
            is("a READ", answer(x, ask(x, 0)), OK);
        }
        is("compact", x.compact(0, 0), 3);
        for (int i = 0; i < 3; i++) {
            is("a READ", answer(x, ask(x, 0)), OK);
        }
        is("node 2 has", last(x, 2), 6);
        for (int i = 0; i < 60; i++) {
            x.pass(1);
            while (message(x, CALL, 0) != NONE) {
                x.lose(message(x, CALL, 0));
            }
            while (message(x, ENTRIES, 2) != NONE) {
                x.lose(message(x, ENTRIES, 2));
            }
            while (message(x, CALL, 1) != NONE) {
                x.lose(message(x, CALL, 1));
            }
            calm(x);
        }
        is("node 2 stood again and again", term(x, 2) >= 4, true);
        is("node 0 leads still", role(x, 0), LEADER);
        is("by the term 1", term(x, 0), 1);
        x.stop(2, true);
        x.start(2);
        is("DROP", answer(x, x.change(0, false, 2, 0, 0)), OK);
        int base = x.copyAt(0, 0, 2);
        int add = x.change(0, true, 2, 0, 0);
        bring(x, REQUEST, 0);
        bring(x, ENTRIES, 2);
        bring(x, GOT, 0);
        bring(x, BASE, 2);
        said(x, "a copy of the term 0 takes a BASE of the term 1", GOT, 1, 1);
        is("its term", term(x, 2), 1);
        is("its base", x.copyAt(2, 0, 2), base);
        is("no entries", x.copyAt(2, 0, 7), 0);
        is("voted for nobody", voted(x, 2), NONE);
        is("ADD", answer(x, add), OK);
        is("it has all", last(x, 2), last(x, 0));
        is("errors", x.errors(), 0);
    }

    /** A GOT of an old disk is none of a member, though another disk of its node is one. */
    private static void oldGots() {
        Rangehold x = three();
        int read = ask(x, 0);
        bring(x, REQUEST, 0);
        bring(x, ENTRIES, 2);
        int got = message(x, GOT, 0);
        is("a GOT of node 2", x.messageAt(got, 1), 2);
        x.twice(got);
        x.deliver(got);
        is("agreed on", x.rangeAt(0, 3), 2);
        x.stop(2, true);
        x.start(2);
        int drop = x.change(0, false, 2, 0, 0);
        while (message(x, REQUEST, 0) != NONE) {
            bring(x, REQUEST, 0);
        }
        while (message(x, ENTRIES, 1) != NONE) {
            bring(x, ENTRIES, 1);
        }
        for (int i = 0; i < x.count(9); i++) {
            if (x.messageAt(i, 0) == GOT && x.messageAt(i, 1) == 1) {
                x.deliver(i);
                i = -1;
            }
        }
        is("dropped", x.rangeAt(0, 7), 3);
        int add = x.change(0, true, 2, 0, 0);
        bring(x, REQUEST, 0);
        is("a member again, by another disk", x.copyAt(0, 0, 6), 7);
        int many = x.count(9);
        bring(x, GOT, 0);
        is("the GOT of the old disk does nothing", x.count(9), many - 1);
        while (message(x, BASE, 2) == NONE && message(x, ENTRIES, 2) != NONE) {
            bring(x, ENTRIES, 2);
            if (message(x, GOT, 0) != NONE) {
                x.deliver(x.count(9) - 1);
            }
        }
        is("the new disk lacks all: a BASE", message(x, BASE, 2) != NONE, true);
        is("ADD", answer(x, add), OK);
        is("DROP", x.askAt(drop, 3), OK);
        is("READ", x.askAt(read, 3), OK);
    }

    /** A GOT no that comes late does not sink the next index below what is matched. */
    private static void lateGots() {
        Rangehold x = three();
        x.stop(2, false);
        for (int i = 0; i < 3; i++) {
            is("a READ", answer(x, ask(x, 0)), OK);
        }
        x.stop(0, false);
        x.start(0);
        x.start(2);
        x.pass(9);
        bring(x, CALL, 1);
        bring(x, VOTE, 0);
        is("node 0 leads", role(x, 0), LEADER);
        bring(x, ENTRIES, 2);
        said(x, "node 2 lacks the one ahead", GOT, 0, 2);
        x.twice(x.count(9) - 1);
        x.twice(x.count(9) - 1);
        bring(x, GOT, 0);
        bring(x, ENTRIES, 2);
        is("it has all", last(x, 2), 5);
        int got = x.count(9) - 1;
        is("GOT yes", x.messageAt(got, 5), 1);
        x.deliver(got);
        while (message(x, ENTRIES, 2) != NONE) {
            x.lose(message(x, ENTRIES, 2));
        }
        while (message(x, ENTRIES, 1) != NONE) {
            x.lose(message(x, ENTRIES, 1));
        }
        int sent = x.count(10);
        bring(x, GOT, 0);
        is("a GOT no that comes late: nothing is lacking", x.count(10), sent);
        bring(x, GOT, 0);
        is("nor the next time", x.count(10), sent);
        calm(x);
        is("errors", x.errors(), 0);
    }

    /** An ADD is of the disk as it was when it was asked; a DROP is of the node, whatever its disk. */
    private static void disksAsAsked() {
        Rangehold x = three();
        x.addNode(0);
        int add = x.change(0, true, 3, 0, 0);
        x.stop(3, true);
        x.start(3);
        is("ADD", answer(x, add), OK);
        is("a member", x.rangeAt(0, 7), 15);
        x.pass(9);
        calm(x);
        is("is a disk that is lost", x.nodeAt(3, 3), 0);
        is("ADD of the disk that is there", answer(x, x.change(0, true, 3, 0, 0)), LATER);
        int drop = x.change(0, false, 3, 0, 0);
        x.stop(3, true);
        x.start(3);
        is("DROP", answer(x, drop), OK);
        is("of all disks of the node", x.rangeAt(0, 7), 7);
        is("ADD", answer(x, x.change(0, true, 3, 0, 0)), OK);
        is("a copy", x.nodeAt(3, 3), 1);
        is("DROP of a disk that is there", answer(x, x.change(0, false, 3, 0, 0)), OK);
        is("its copy stays", x.nodeAt(3, 3), 1);
        is("errors", x.errors(), 0);
    }

    /** CALL, VOTE and GOT at a node without a copy do nothing. */
    private static void noCopies() {
        Rangehold x = nodes(2);
        x.found(3);
        x.pass(9);
        x.stop(0, true);
        x.start(0);
        bring(x, CALL, 1);
        said(x, "a VOTE", VOTE, 1, 1);
        bring(x, VOTE, 0);
        is("a VOTE for a disk that is lost", x.count(9), 0);
        Rangehold y = three();
        y.addNode(0);
        is("a REQUEST where no copy is", answer(y, ask(y, 3)), NO_COPY);
        is("at no LEADER", answer(y, ask(y, 1)), NOT_LEADER);
        is("at a node that is down", answer(down(y), ask(y, 1)), NONE);
    }

    private static Rangehold down(Rangehold x) {
        x.stop(1, false);
        return x;
    }

    // members

    private static void changesLater() {
        Rangehold x = three();
        x.addNode(0);
        int add = x.change(0, true, 3, 0, 0);
        bring(x, REQUEST, 0);
        is("ADD above the mark: ADD", ahead(x, x.change(0, true, 3, 0, 0)), LATER);
        is("DROP", ahead(x, x.change(0, false, 1, 0, 0)), LATER);
        is("others are taken", ahead(x, ask(x, 0)), NONE);
        is("two more entries", last(x, 0), 3);
        is("ADD", answer(x, add), OK);
        is("at the mark it is in nobody's way", answer(x, x.change(0, false, 3, 0, 0)), OK);
        int drop = x.change(0, false, 2, 0, 0);
        bring(x, REQUEST, 0);
        is("DROP above the mark: DROP", ahead(x, x.change(0, false, 1, 0, 0)), LATER);
        is("ADD", ahead(x, x.change(0, true, 3, 0, 0)), LATER);
        is("DROP", answer(x, drop), OK);
        is("two members", x.rangeAt(0, 7), 3);
        is("ADD of one that is there", answer(x, x.change(0, true, 1, 0, 0)), OK);
        is("DROP of one that is none", answer(x, x.change(0, false, 3, 0, 0)), OK);
        is("changes nothing", x.rangeAt(0, 7), 3);
    }

    /** What is above the mark and no ADD or DROP, or at the mark and below, is in nobody's way. */
    private static void changesAmongOthers() {
        Rangehold x = three();
        x.addNode(0);
        x.addNode(0);
        is("ADD", answer(x, x.change(0, true, 3, 0, 0)), OK);
        is("ADD of the last node", answer(x, x.change(0, true, 4, 0, 0)), OK);
        is("ADD of it again", answer(x, x.change(0, true, 4, 0, 0)), OK);
        appendAlone(x, 0, 2);
        is("entries above the mark", last(x, 0) - mark(x, 0), 2);
        int drop = x.change(0, false, 4, 0, 0);
        bring(x, REQUEST, 0);
        is("are no ADD or DROP", x.entryAt(0, 0, last(x, 0), 2), drop);
        is("DROP", answer(x, drop), OK);
    }

    /** An ADD of a member does not bring it: it is sent what it lacks. */
    private static void addsNobody() {
        Rangehold x = three();
        x.stop(2, false);
        is("a READ", answer(x, ask(x, 0)), OK);
        is("a READ", answer(x, ask(x, 0)), OK);
        x.change(0, true, 2, 0, 0);
        bring(x, REQUEST, 0);
        is("all that it lacks", x.messageAt(message(x, ENTRIES, 2), 6), 3);
        calm(x);
        Rangehold y = three();
        y.stop(1, false);
        is("a READ", answer(y, ask(y, 0)), OK);
        y.split(0, 16, 0, 0);
        bring(y, REQUEST, 0);
        is("a SPLIT brings no member", y.messageAt(message(y, ENTRIES, 1), 6), 2);
    }

    /** A LEADER that is one no more, as it carried out its DROP, sends nothing, though others lack entries. */
    private static void dropsItselfSilently() {
        Rangehold x = three();
        x.change(1, false, 0, 0, 0);
        bring(x, REQUEST, 0);
        bring(x, ENTRIES, 1);
        bring(x, ENTRIES, 2);
        int behind = x.readAsOf(1, 0, 0, 0, 0);
        bring(x, REQUEST, 0);
        while (message(x, ENTRIES, 1) != NONE || message(x, ENTRIES, 2) != NONE) {
            x.lose(message(x, ENTRIES, message(x, ENTRIES, 1) != NONE ? 1 : 2));
        }
        bring(x, GOT, 0);
        is("it leads", role(x, 0), LEADER);
        is("who lacks the entry behind is sent it", messages(x, ENTRIES, 1), 1);
        bring(x, GOT, 0);
        is("it follows", role(x, 0), FOLLOWER);
        is("who lacks the entry behind is not sent it", messages(x, ENTRIES, 2), 0);
        is("it has no answer", x.askAt(behind, 3), NONE);
    }

    private static void changesOfNewLeader() {
        Rangehold x = nodes(3);
        x.found(7);
        x.pass(9);
        bring(x, CALL, 1);
        bring(x, VOTE, 0);
        is("node 0 leads", role(x, 0), LEADER);
        int early = x.change(0, false, 2, 0, 0);
        is("no entry up to its mark has its own term", ahead(x, early), LATER);
        is("nor with FULL", last(x, 0), 1);
        calm(x);
        is("its own entry is agreed on", answer(x, x.change(0, false, 2, 0, 0)), OK);
        Rangehold y = three();
        is("compact: the base has its own term", y.compact(0, 0), 1);
        is("which is enough", answer(y, y.change(0, false, 2, 0, 0)), OK);
        y.stop(0, false);
        y.start(0);
        y.stop(1, false);
        is("two members", y.rangeAt(0, 7), 3);
    }

    private static void fullLog() {
        Rangehold x = three();
        appendAlone(x, 0, 38);
        is("39 entries", x.copyAt(0, 0, 7), 39);
        int taken = ask(x, 0);
        is("are not 40", ahead(x, taken), NONE);
        is("40 entries", x.copyAt(0, 0, 7), 40);
        is("FULL", ahead(x, ask(x, 0)), FULL);
        is("FULL ahead of LATER", ahead(x, x.change(0, true, 1, 0, 0)), FULL);
        is("a LOOK is no command", ahead(x, x.asOf(0, Rangehold.LOOK, 0, 0, 0, 0)), OK);
        is("compact makes room", x.compact(0, 0), 1);
        is("for one", ahead(x, ask(x, 0)), NONE);
        is("no more", ahead(x, ask(x, 0)), FULL);
        is("at no LEADER it is NOT_LEADER", ahead(x, ask(x, 1)), NOT_LEADER);
    }

    private static void aloneAndNobody() {
        Rangehold x = alone();
        x.addNode(0);
        int add = x.change(0, true, 1, 0, 0);
        bring(x, REQUEST, 0);
        is("a member more", x.copyAt(0, 0, 6), 3);
        is("an entry that one of two has is not agreed on", x.rangeAt(0, 3), 1);
        is("the new member is told from the ADD on", x.messageAt(message(x, ENTRIES, 1), 6), 1);
        is("ADD", answer(x, add), OK);
        is("a copy there", x.nodeAt(1, 3), 1);
        int drop = x.change(0, false, 1, 0, 0);
        bring(x, REQUEST, 0);
        is("DROP leaves one, which is a majority at once", x.rangeAt(0, 7), 1);
        is("who is no member is not told", message(x, ENTRIES, 1), NONE);
        is("DROP", answer(x, drop), OK);
        x.pass(3);
        calm(x);
        is("by its own log node 1 is a member still", x.copyAt(1, 0, 6), 3);
        Rangehold y = alone();
        int last = y.change(0, false, 0, 0, 0);
        bring(y, REQUEST, 0);
        is("no member is left", y.copyAt(0, 0, 6), 0);
        is("none is no majority of none", y.rangeAt(0, 7), 1);
        y.pass(9);
        calm(y);
        is("for ever", answer(y, last), NONE);
        is("it leads still", y.copyAt(0, 0, 1), LEADER);
        is("a change behind it", answer(y, y.change(0, true, 0, 0, 0)), LATER);
        y.stop(0, false);
        y.start(0);
        y.pass(30);
        is("who is no member does not stand", y.copyAt(0, 0, 1), FOLLOWER);
    }

    private static void dropsItself() {
        Rangehold x = three();
        int drop = x.change(1, false, 0, 0, 0);
        bring(x, REQUEST, 0);
        is("it leads till this is agreed on", role(x, 0), LEADER);
        is("though it is none", x.copyAt(0, 0, 6), 6);
        bring(x, ENTRIES, 1);
        bring(x, GOT, 0);
        is("one of the two others is no majority of them", role(x, 0), LEADER);
        bring(x, ENTRIES, 2);
        bring(x, GOT, 0);
        is("then it is a FOLLOWER", role(x, 0), FOLLOWER);
        is("the ANSWER is sent", answer(x, drop), OK);
        is("members", x.rangeAt(0, 7), 6);
        x.pass(30);
        is("and does not stand", role(x, 0), FOLLOWER);
        is("by its first term", term(x, 0), 1);
    }

    private static void newMemberVotes() {
        Rangehold x = three();
        x.addNode(0);
        x.addNode(0);
        is("ADD", answer(x, x.change(0, true, 3, 0, 0)), OK);
        is("ADD", answer(x, x.change(0, true, 4, 0, 0)), OK);
        is("five members", x.rangeAt(0, 7), 31);
        x.pass(3);
        calm(x);
        is("all have all", last(x, 4), 3);
        x.stop(1, false);
        x.stop(2, false);
        is("three of five are a majority", answer(x, ask(x, 0)), OK);
        x.stop(4, false);
        is("two are not", answer(x, ask(x, 0)), NONE);
    }

    // splits in groups

    private static void copiesOfSplits() {
        Rangehold x = three();
        x.addNode(0);
        int split = x.split(0, 16, 0, 0);
        bring(x, REQUEST, 0);
        is("not there until it is agreed on", x.count(3), 1);
        bring(x, ENTRIES, 1);
        bring(x, GOT, 0);
        is("there", x.count(3), 2);
        is("a copy where it was carried out", x.nodeAt(0, 3), 2);
        is("not where it was not", x.nodeAt(1, 3), 1);
        is("its members", x.copyAt(0, 1, 6), 7);
        is("OK", answer(x, split), OK);
        x.pass(3);
        calm(x);
        is("a copy", x.nodeAt(1, 3), 2);
        is("a copy", x.nodeAt(2, 3), 2);
        is("not where no member is", x.nodeAt(3, 3), 0);
        int time = x.count(0);
        x.pass(5);
        is("in touch as of when it was made", x.copyAt(0, 1, 1), FOLLOWER);
        x.pass(1);
        is("more than 8 ticks ago", x.copyAt(0, 1, 1), CANDIDATE);
        is("the time", x.count(0), time + 6);
        is("its members call each other", x.messageAt(x.count(9) - 1, 3), 1);
    }

    private static void copiesOfSplitsOfMembers() {
        Rangehold x = three();
        x.addNode(0);
        is("DROP", answer(x, x.change(0, false, 2, 0, 0)), OK);
        is("SPLIT", answer(x, x.split(0, 16, 0, 0)), OK);
        is("the members by then", x.rangeAt(1, 7), 3);
        is("ADD", answer(x, x.change(0, true, 3, 0, 0)), OK);
        x.pass(3);
        calm(x);
        is("node 3 has the first range", x.copyAt(3, 0, 6), 11);
        is("but not the new one, of which it is no member", x.nodeAt(3, 3), 1);
        is("node 1 has both", x.nodeAt(1, 3), 2);
        is("the new one's members", x.copyAt(1, 1, 6), 3);
        x.stop(1, true);
        x.start(1);
        is("DROP", answer(x, x.change(0, false, 1, 0, 0)), OK);
        is("compact", x.compact(0, 0) > 0, true);
        is("ADD", answer(x, x.change(0, true, 1, 0, 0)), OK);
        is("a new disk gets a copy by a BASE", x.nodeAt(1, 3), 1);
        is("but none of a range of which its old disk was a member", x.rangeAt(1, 7), 3);
        is("errors", x.errors(), 0);
    }

    /** A BASE makes the copies of what was split off in its state, and of nothing else. */
    private static void copiesByBase() {
        Rangehold x = three();
        x.stop(2, false);
        is("SPLIT", answer(x, x.split(0, 24, 0, 0)), OK);
        is("SPLIT", answer(x, x.split(0, 16, 0, 0)), OK);
        is("READ", answer(x, ask(x, 0)), OK);
        x.settle(40);
        int to = leader(x, 2);
        is("SPLIT of the range 2", answer(x, x.split(0, 20, 2, to)), OK);
        is("ranges", x.count(3), 4);
        is("compact", x.compact(0, 0) > 0, true);
        is("compact", x.compact(to, 2) > 0, true);
        x.start(2);
        is("node 2 has the first range alone", x.nodeAt(2, 3), 1);
        int copies = 1;
        for (int i = 0; i < 12 && copies == 1; i++) {
            x.pass(1);
            for (int j = 0; j < x.count(9); j++) {
                if (x.messageAt(j, 3) != 2) {
                    x.lose(j);
                    j--;
                }
            }
            for (int j = 0; j < 20 && x.count(9) > 0 && copies == 1; j++) {
                x.deliver(0);
                copies = x.nodeAt(2, 3);
            }
        }
        is("a BASE of the range 2 brings it, and the range 3, which was split off from it", copies, 3);
        is("not the range 1", roleOf(x, 2, 1), NONE);
        hush(x);
        for (int i = 0; i < 12 && copies == 3; i++) {
            x.pass(1);
            for (int j = 0; j < x.count(9); j++) {
                if (x.messageAt(j, 3) != 0) {
                    x.lose(j);
                    j--;
                }
            }
            calm(x);
            copies = x.nodeAt(2, 3);
        }
        is("a BASE of the range 0 brings the range 1", copies, 4);
        x.settle(40);
        is("errors", x.errors(), 0);
    }

    // asks

    private static void answersCountOnce() {
        Rangehold x = three();
        x.addNode(0);
        int it = ask(x, 0);
        x.again(it, 1);
        x.again(it, 3);
        x.again(it, 0);
        is("four REQUESTs", x.count(9), 4);
        bring(x, REQUEST, 1);
        bring(x, REQUEST, 3);
        is("two ANSWERs", messages(x, ANSWER, 0), 2);
        bring(x, ANSWER, 0);
        is("the first one counts", x.askAt(it, 3), NOT_LEADER);
        bring(x, ANSWER, 0);
        is("the next one does not", x.askAt(it, 3), NOT_LEADER);
        calm(x);
        is("nor do others", x.askAt(it, 3), NOT_LEADER);
        is("but the command was carried out twice", x.rangeAt(0, 3), 3);
        is("nothing was told OK", x.count(14), 0);
    }

    private static void lostAsks() {
        Rangehold x = three();
        int it = x.readAsOf(1, 0, 0, 0, 0);
        int other = x.readAsOf(2, 0, 0, 0, 0);
        calmBut(x);
        is("LOST: one", x.stop(1, false), 1);
        x.start(1);
        calm(x);
        is("the ANSWER does not count, as the node stopped since", x.askAt(it, 3), -5);
        is("the other one's does", x.askAt(other, 3), OK);
        is("with an answer nothing is LOST", x.stop(2, true), 0);
        x.start(2);
        int fresh = x.readAsOf(1, 0, 0, 0, 2);
        is("an ask behind the start", answer(x, fresh), NO_COPY);
    }

    /** Delivers all but ANSWERs. */
    private static void calmBut(Rangehold x) {
        for (int i = 0; i < x.count(9); i++) {
            if (x.messageAt(i, 0) != ANSWER) {
                x.deliver(i);
                i = -1;
            }
        }
    }

    private static void fullNet() {
        Rangehold x = alone();
        for (int i = 1; i <= 150; i++) {
            ask(x, 0);
            is("the net has", x.count(9), i);
        }
        is("nothing was lost", x.count(11), 0);
        ask(x, 0);
        is("one more is lost as it is sent", x.count(9), 150);
        is("lost", x.count(11), 1);
        is("sent", x.count(10), 151);
        is("the last one is the 150th", x.messageAt(149, 4), 149);
        x.again(150, 0);
        is("lost again", x.count(11), 2);
        x.lose(0);
        x.again(150, 0);
        is("with room it is behind all others", x.messageAt(149, 4), 150);
        x.deliver(0);
        is("what is delivered leaves room for its ANSWER", x.messageAt(149, 0), ANSWER);
        is("nothing more was lost", x.count(11), 3);
    }

    public static void main(String[] args) {
        standing();
        majorities();
        votesCountOnce();
        standsAgain();
        votedForAnother();
        callsWithLess();
        noDoesNotTouch();
        callsByTerms();
        lesserTerms();
        oldLeader();
        leaderFollows();
        candidateFollows();
        sendsAtTicks();
        fourEntries();
        replaced();
        unlikeAhead();
        lateEntries();
        marksFollow();
        olderTerms();
        olderTermsAlone();
        compactsItself();
        compactsByCall();
        sendsBase();
        lateBase();
        baseOverFork();
        longLogs();
        cutLogs();
        cutMembers();
        baseBehindBase();
        laterDisks();
        freshCopies();
        oldGots();
        lateGots();
        lostDisks();
        disksAsAsked();
        noCopies();
        changesLater();
        changesAmongOthers();
        addsNobody();
        dropsItselfSilently();
        changesOfNewLeader();
        fullLog();
        aloneAndNobody();
        dropsItself();
        newMemberVotes();
        copiesOfSplits();
        copiesOfSplitsOfMembers();
        copiesByBase();
        answersCountOnce();
        lostAsks();
        fullNet();
        finish("GroupEdges");
    }
}
