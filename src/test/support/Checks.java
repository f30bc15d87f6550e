import java.util.NoSuchElementException;

/** What the tests share: checks that count, houses to begin with, and ways to go on in them. */
class Checks {
    static final long ABSENT = Rangehold.ABSENT;
    static final int NONE = Rangehold.NONE;
    static final int OK = Rangehold.OK;

    /** The pieces of promise 20. */
    static final String[] PIECES = {
        "tx move { get x a; get y b; if x > 0 { put a, x - 1; put b, y + 1; } give x; }",
        "tx sum { s = 0; scan k v a, b { s = s + v; } put 31, s; give s; }",
        "tx fill { while a < b { put a, a * a; a = a + 1; } give a; }",
        "tx swap { has p a; has q b; get x a; get y b; del a; del b; if q { put a, y; } if p { put b, x; } give p + q; }",
        "tx count { get n a; put a, n + 1; if n > b { fail; } give n; }",
        "tx tidy { n = 0; scan k v a, b { if v % 2 = 1 { del k; n = n + 1; } else { put k, v / 2; } } give n; }"};

    static final Class<?> NO_SUCH_NUMBER = IndexOutOfBoundsException.class;
    static final Class<?> BAD_ARGUMENT = IllegalArgumentException.class;
    static final Class<?> BAD_STATE = IllegalStateException.class;
    static final Class<?> NO_ELEMENT = NoSuchElementException.class;
    static int wrong;
    static int checks;

    interface Call {
        void make();
    }

    static void is(String what, long got, long due) {
        checks++;
        if (got != due) {
            wrong++;
            System.out.println(what + " answered " + got + ", due is " + due);
        }
    }

    static void is(String what, boolean got, boolean due) {
        is(what, got ? 1 : 0, due ? 1 : 0);
    }

    static Class<?> thrownBy(Call call) {
        try {
            call.make();
            return null;
        } catch (RuntimeException e) {
            return e.getClass();
        }
    }

    /** A call throws what is due, and nothing has changed behind it. */
    static void fails(String what, Class<?> due, Rangehold x, Call call) {
        checks++;
        String before = Snapshot.of(x);
        Class<?> got = thrownBy(call);
        if (got != due) {
            wrong++;
            System.out.println(what + " threw " + got + ", due is " + due);
        }
        unchanged(what, x, before);
    }

    static void unchanged(String what, Rangehold x, String before) {
        checks++;
        String after = Snapshot.of(x);
        if (!after.equals(before)) {
            wrong++;
            System.out.println(what + " changed " + Snapshot.difference(before, after));
        }
    }

    /** Ends a test: tells what was checked, and the exit code 1 if something was wrong. */
    static void finish(String name) {
        System.out.println(name + ": " + checks + " checks, " + wrong + " wrong");
        if (wrong != 0 || checks == 0) {
            System.exit(1);
        }
    }

    // houses

    static Rangehold nodes(int many) {
        Rangehold x = new Rangehold();
        for (int i = 0; i < many; i++) {
            x.addNode(0);
        }
        return x;
    }

    /** One node that is the leader of the range 0; the time is 9. */
    static Rangehold alone() {
        return led(1);
    }

    /** Three nodes, node 0 is the leader of the range 0; the net is empty, the time is 9. */
    static Rangehold three() {
        return led(3);
    }

    /** So many nodes, all of them members, node 0 is the leader of the range 0; the net is empty, the time is 9. */
    static Rangehold led(int many) {
        Rangehold x = nodes(many);
        x.found((1 << many) - 1);
        x.pass(9);
        calm(x);
        return x;
    }

    /** As alone(), but with so many asks, of which none has an answer; the net is empty. */
    static Rangehold asked(int many) {
        Rangehold x = alone();
        flood(x, many);
        return x;
    }

    static void flood(Rangehold x, int many) {
        while (x.count(7) < many) {
            x.readAsOf(0, 0, 0, 0, 0);
            x.lose(x.count(9) - 1);
        }
    }

    // the net

    /** Delivers all that is in the net, without a tick. */
    static void calm(Rangehold x) {
        for (int i = 0; i < 4000 && x.count(9) > 0; i++) {
            x.deliver(0);
        }
    }

    /** Loses all that is in the net. */
    static void hush(Rangehold x) {
        while (x.count(9) > 0) {
            x.lose(0);
        }
    }

    static long answer(Rangehold x, int ask) {
        calm(x);
        return x.askAt(ask, 3);
    }

    /** The first message of a kind to a node; NONE without one. */
    static int message(Rangehold x, int kind, int to) {
        for (int i = 0; i < x.count(9); i++) {
            if (x.messageAt(i, 0) == kind && x.messageAt(i, 2) == to) {
                return i;
            }
        }
        return NONE;
    }

    static int messages(Rangehold x, int kind, int to) {
        int many = 0;
        for (int i = 0; i < x.count(9); i++) {
            many += x.messageAt(i, 0) == kind && x.messageAt(i, 2) == to ? 1 : 0;
        }
        return many;
    }

    /** Delivers the first message of a kind to a node. */
    static void bring(Rangehold x, int kind, int to) {
        int it = message(x, kind, to);
        is("there is a message of the kind " + kind + " to " + to, it != NONE, true);
        if (it != NONE) {
            x.deliver(it);
        }
    }

    /** Delivers the REQUEST of an ask and its ANSWER ahead of all others. */
    static long ahead(Rangehold x, int ask) {
        for (int kind = Rangehold.REQUEST; kind <= Rangehold.ANSWER; kind++) {
            for (int i = 0; i < x.count(9); i++) {
                if (x.messageAt(i, 0) == kind && x.messageAt(i, 4) == ask) {
                    x.deliver(i);
                    break;
                }
            }
        }
        return x.askAt(ask, 3);
    }

    static int leader(Rangehold x, int range) {
        for (int node = 0; node < x.count(1); node++) {
            if (roleOf(x, node, range) == Rangehold.LEADER) {
                return node;
            }
        }
        return 0;
    }

    /** The role of a copy; NONE without one. */
    static int roleOf(Rangehold x, int node, int range) {
        return thrownBy(() -> x.copyAt(node, range, 1)) == null ? x.copyAt(node, range, 1) : NONE;
    }

    // transactions

    /** Writes keys in a new transaction of node 0 and commits it; returns its number. */
    static int commit(Rangehold x, int range, long... keysAndValues) {
        int it = x.begin(0);
        for (int i = 0; i < keysAndValues.length; i += 2) {
            is("a WRITE", answer(x, x.write(it, (int) keysAndValues[i], keysAndValues[i + 1], range, 0)), OK);
        }
        is("an END", answer(x, x.end(it, true, range, 0)), OK);
        return it;
    }

    static void resolveAll(Rangehold x, int it, int range, int... keys) {
        for (int key : keys) {
            is("a RESOLVE", answer(x, x.resolve(0, it, key, range, 0)), OK);
        }
    }

    /** Commits, and makes versions of what was written. */
    static int settled(Rangehold x, int range, long... keysAndValues) {
        int it = commit(x, range, keysAndValues);
        for (int i = 0; i < keysAndValues.length; i += 2) {
            resolveAll(x, it, range, (int) keysAndValues[i]);
        }
        return it;
    }

    static int close(Rangehold x, long moment, int range) {
        return (int) answer(x, x.asOf(0, Rangehold.CLOSE, moment, 0, range, 0));
    }

    static int sweep(Rangehold x, long moment, int range) {
        return (int) answer(x, x.asOf(0, Rangehold.SWEEP, moment, 0, range, 0));
    }

    // texts

    static void put(Rangehold x, String words) {
        byte[] bytes = new byte[(words.length() + 47) / 48 * 48];
        for (int i = 0; i < words.length(); i++) {
            bytes[i] = (byte) words.charAt(i);
        }
        for (int i = 0; i < bytes.length; i += 48) {
            x.type(number(bytes, i), number(bytes, i + 8), number(bytes, i + 16), number(bytes, i + 24), number(bytes, i + 32), number(bytes, i + 40));
        }
    }

    private static long number(byte[] bytes, int from) {
        long it = 0;
        for (int i = from; i < from + 8; i++) {
            it = it << 8 | bytes[i] & 255;
        }
        return it;
    }

    static Rangehold with(Rangehold x, String programs) {
        put(x, programs);
        x.load();
        return x;
    }

    static void error(String words, int kind, int place) {
        Rangehold x = new Rangehold();
        put(x, words);
        is("errorKind of " + words, x.errorKind(), kind);
        is("errorPlace of " + words, x.errorPlace(), place);
        is("errorKind changes nothing", x.count(18), words.length());
    }
}
