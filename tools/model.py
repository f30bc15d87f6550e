"""A second Rangehold, written from the document alone in the plainest way: states are maps, whole states are
copied, jobs carry out the meaning of the text and not its code. record.py makes runs with it, against which
src/test/java/RecordedRuns.java holds the class."""

import copy
import struct

NONE = -1
ABSENT = -(1 << 63)
(
    READ,
    WRITE,
    END,
    PUSH,
    RESOLVE,
    SPLIT,
    FREEZE,
    JOIN,
    REFUSE,
    THAW,
    ADD,
    DROP,
    NOTHING,
    SCAN,
    CLOSE,
    SWEEP,
    LOOK,
) = range(17)
(OK, WAITS, LATE, WRONG, FROZEN, NOT_LEADER, NO_COPY, LATER, FULL, REFUSED, JOINED, GONE, UNKNOWN) = range(13)
(OPEN, DOOMED, ENDING, COMMITTED, ABORTED, LOST) = range(6)
(FOLLOWER, CANDIDATE, LEADER) = range(3)
(RUNS, DONE, FELL, GIVEN_UP) = range(4)
(KEY, ZERO, TIRED, FAILED, MANY) = range(1, 6)
(CALL, VOTE, ENTRIES, BASE, GOT, REQUEST, ANSWER) = range(7)


class Ex(Exception):
    pass


def ioobe():
    raise Ex("IndexOutOfBoundsException")


def iae():
    raise Ex("IllegalArgumentException")


def ise():
    raise Ex("IllegalStateException")


def nse():
    raise Ex("NoSuchElementException")


def i32(x):
    return (x + (1 << 31)) % (1 << 32) - (1 << 31)


def tdiv(a, b):
    q = abs(a) // abs(b)
    return i32(q if (a < 0) == (b < 0) else -q)


def trem(a, b):
    r = abs(a) % abs(b)
    return i32(-r if a < 0 else r)


def newState(first, behind):
    return dict(
        first=first,
        behind=behind,
        versions={k: {} for k in range(32)},
        read={k: 0 for k in range(32)},
        intents={},
        records={},
        frozen=None,
        maxEpoch=0,
        closed=0,
        floor=0,
        joined=set(),
        refused=set(),
        splits={},
    )


class Node:
    pass


class Copy:
    pass


class Txn:
    pass


class Ask:
    pass


class Job:
    pass


def readValue(s, key, m, t, num):
    if num is not None and key in s["intents"] and s["intents"][key]["t"] == t and num in s["intents"][key]["values"]:
        return s["intents"][key]["values"][num]
    best = None
    for vm in s["versions"][key]:
        if vm <= m and (best is None or vm > best):
            best = vm
    return ABSENT if best is None else s["versions"][key][best]


def carry(s, c, members):
    """carries out command c on state s (in place); returns (answer,value,extra)"""
    k = c["kind"]
    if k in (READ, WRITE, END, PUSH, RESOLVE, SPLIT, SCAN, CLOSE, SWEEP):
        if s["frozen"] is not None:
            return (FROZEN, 0, None)
        if k == SPLIT and c["range"] in s["splits"]:
            return (OK, c["range"], None)
        if k in (END, PUSH):
            key = c["anchor"]
        elif k in (CLOSE, SWEEP):
            key = None
        else:
            key = c["key"]
        if key is not None and not (s["first"] <= key < s["behind"]):
            return (WRONG, 0, None)
        if k == SPLIT and key <= s["first"]:
            return (WRONG, 0, None)
        if k in (READ, SCAN) and c["m"] < s["floor"]:
            return (GONE, s["floor"], None)
    if k == READ:
        t, m = c["t"], c["m"]
        if key in s["intents"] and s["intents"][key]["t"] != t and s["intents"][key]["m"] <= m:
            return (WAITS, s["intents"][key]["t"], None)
        s["read"][key] = max(s["read"][key], m if t is not None else m + 1)
        return (OK, readValue(s, key, m, t, c["num"]), None)
    if k == WRITE:
        t, m = c["t"], c["m"]
        it = s["intents"].get(key)
        if it is not None and it["t"] != t:
            return (WAITS, it["t"], None) if it["m"] < m else (LATE, it["m"], None)
        late = []
        if s["read"][key] > m:
            late.append(s["read"][key])
        late += [vm for vm in s["versions"][key] if vm >= m]
        if late:
            return (LATE, max(late), None)
        if it is None:
            it = dict(t=t, m=m, anchor=c["anchor"], values={})
            s["intents"][key] = it
        it["values"].setdefault(c["num"], c["value"])
        return (OK, 0, None)
    if k == END:
        t = c["t"]
        if t not in s["records"]:
            s["records"][t] = (COMMITTED, dict(c["wrote"]), c["anchor"]) if c["commit"] else (ABORTED, {}, c["anchor"])
        return (OK, s["records"][t][0], s["records"][t])
    if k == PUSH:
        t = c["t"]
        if t not in s["records"]:
            if c["k"] < c["m"] // 8 + 1000:
                return (WAITS, t, None)
            s["records"][t] = (ABORTED, {}, c["anchor"])
        return (OK, s["records"][t][0], s["records"][t])
    if k == RESOLVE:
        it = s["intents"].get(key)
        if it is not None and it["t"] == c["t"]:
            del s["intents"][key]
            if c["num"] is not None and c["num"] in it["values"]:
                s["versions"][key][it["m"]] = it["values"][c["num"]]
        return (OK, 0, None)
    if k == SPLIT:
        n = newState(key, s["behind"])
        for q in range(key, s["behind"]):
            n["versions"][q] = s["versions"][q]
            s["versions"][q] = {}
            n["read"][q] = s["read"][q]
            s["read"][q] = 0
            if q in s["intents"]:
                n["intents"][q] = s["intents"].pop(q)
        for t in list(s["records"]):
            if s["records"][t][2] >= key:
                n["records"][t] = s["records"].pop(t)
        n["closed"] = s["closed"]
        n["floor"] = s["floor"]
        s["behind"] = key
        s["splits"][c["range"]] = (copy.deepcopy(n), members)
        return (OK, c["range"], "split")
    if k == FREEZE:
        if s["frozen"] is not None:
            if s["frozen"] == c["epoch"]:
                return (OK, 0, copy.deepcopy(s))
            return (FROZEN, 0, None)
        if c["epoch"] <= s["maxEpoch"]:
            return (WRONG, 0, None)
        s["frozen"] = c["epoch"]
        s["maxEpoch"] = c["epoch"]
        return (OK, 0, copy.deepcopy(s))
    if k == JOIN:
        if c["epoch"] in s["refused"]:
            return (REFUSED, 0, None)
        if c["epoch"] in s["joined"]:
            return (OK, 0, None)
        if s["frozen"] is not None:
            return (FROZEN, 0, None)
        o = c["state"]
        if o["first"] != s["behind"]:
            return (WRONG, 0, None)
        o = copy.deepcopy(o)
        for q in range(o["first"], o["behind"]):
            s["versions"][q] = o["versions"][q]
            s["read"][q] = o["read"][q]
            if q in o["intents"]:
                s["intents"][q] = o["intents"][q]
        s["records"].update(o["records"])
        s["behind"] = o["behind"]
        s["closed"] = min(s["closed"], o["closed"])
        s["floor"] = max(s["floor"], o["floor"])
        s["joined"].add(c["epoch"])
        return (OK, 0, None)
    if k == REFUSE:
        if c["epoch"] in s["joined"]:
            return (JOINED, 0, None)
        s["refused"].add(c["epoch"])
        return (OK, 0, None)
    if k == THAW:
        if s["frozen"] is not None and s["frozen"] == c["epoch"]:
            s["frozen"] = None
            return (OK, 0, None)
        return (WRONG, 0, None)
    if k in (ADD, DROP, NOTHING):
        return (OK, 0, None)
    if k == SCAN:
        t, m = c["t"], c["m"]
        end = min(c["behind"], s["behind"])
        for q in range(key, end):
            if q in s["intents"] and s["intents"][q]["t"] != t and s["intents"][q]["m"] <= m:
                return (WAITS, s["intents"][q]["t"], q)
        res = []
        for q in range(key, end):
            s["read"][q] = max(s["read"][q], m if t is not None else m + 1)
            v = readValue(s, q, m, t, c["wrote"].get(q))
            if v != ABSENT:
                res.append((q, v))
        return (OK, len(res), (res, end))
    if k == CLOSE:
        m = c["m"]
        s["closed"] = max(s["closed"], m)
        for q in range(s["first"], s["behind"]):
            s["read"][q] = max(s["read"][q], m + 1)
        return (OK, 0, None)
    if k == SWEEP:
        m = c["m"]
        if m > s["closed"]:
            return (WRONG, 0, None)
        s["floor"] = max(s["floor"], m)
        for q in range(s["first"], s["behind"]):
            old = sorted(v for v in s["versions"][q] if v <= m)
            for v in old[:-1]:
                del s["versions"][q][v]
            if old and s["versions"][q][old[-1]] == ABSENT:
                del s["versions"][q][old[-1]]
        return (OK, 0, None)
    raise Exception("kind")


def membersAfter(members, c):
    if c["kind"] == ADD:
        return members | {c["member"]}
    if c["kind"] == DROP:
        return frozenset(x for x in members if x[0] != c["member"][0])
    return members


PIECES = [
    "tx move { get x a; get y b; if x > 0 { put a, x - 1; put b, y + 1; } give x; }",
    "tx sum { s = 0; scan k v a, b { s = s + v; } put 31, s; give s; }",
    "tx fill { while a < b { put a, a * a; a = a + 1; } give a; }",
    "tx swap { has p a; has q b; get x a; get y b; del a; del b; if q { put a, y; } if p { put b, x; } give p + q; }",
    "tx count { get n a; put a, n + 1; if n > b { fail; } give n; }",
    "tx tidy { n = 0; scan k v a, b { if v % 2 = 1 { del k; n = n + 1; } else { put k, v / 2; } } give n; }",
]
QUOTED = {"tx", "get", "has", "put", "del", "scan", "if", "else", "while", "give", "fail"}


class Err(Exception):
    def __init__(s, kind, place):
        s.kind = kind
        s.place = place


def lex(b):
    toks = []
    i = 0
    n = len(b)
    while i < n:
        ch = b[i]
        if ch in (32, 10):
            i += 1
            continue
        j = i + 1
        if 97 <= ch <= 122:
            while j < n and 97 <= b[j] <= 122:
                j += 1
            toks.append(("w", bytes(b[i:j]).decode(), i))
        elif 48 <= ch <= 57:
            while j < n and 48 <= b[j] <= 57:
                j += 1
            v = int(bytes(b[i:j]).decode())
            toks.append(("bad", None, i) if v > 999999 else ("n", v, i))
        elif chr(ch) in "{}();,=<>+-*/%":
            toks.append(("s", chr(ch), i))
        else:
            toks.append(("bad", None, i))
        i = j
    toks.append(("end", None, n))
    return toks


class Parser:
    """makes a tree; explicit stack of depth as a counter"""

    def __init__(s, b, names):
        s.t = lex(b)
        s.i = 0
        s.deep = 0
        s.names = list(names)
        s.progs = []
        s.inscan = 0

    def cur(s):
        t = s.t[s.i]
        if t[0] == "bad":
            raise Err(1, t[2])
        return t

    def err(s, kind):
        raise Err(kind, s.cur()[2])

    def sign(s, x):
        t = s.cur()
        if t[0] != "s" or t[1] != x:
            s.err(2)
        s.i += 1

    def isS(s, x):
        t = s.cur()
        return t[0] == "s" and t[1] == x

    def isW(s, x):
        t = s.cur()
        return t[0] == "w" and t[1] == x

    def open(s, x):
        if not s.isS(x):
            s.err(2)
        if s.deep + 1 > 12:
            s.err(3)
        s.deep += 1
        s.i += 1

    def close(s, x):
        s.sign(x)
        s.deep -= 1

    def text(s):
        while s.cur()[0] != "end":
            if not s.isW("tx"):
                s.err(2)
            if len(s.names) >= 6:
                s.err(5)
            s.i += 1
            t = s.cur()
            if t[0] != "w" or not 2 <= len(t[1]) <= 8 or t[1] in QUOTED:
                s.err(2)
            if t[1] in s.names:
                s.err(4)
            s.i += 1
            s.names.append(t[1])
            s.progs.append(s.block())
        return s.progs

    def block(s):
        s.open("{")
        r = []
        while not s.isS("}"):
            r.append(s.stmt())
        s.close("}")
        return r

    def var(s):
        t = s.cur()
        if t[0] != "w" or len(t[1]) != 1:
            s.err(2)
        s.i += 1
        return ord(t[1]) - 97

    def stmt(s):
        t = s.cur()
        if t[0] != "w":
            s.err(2)
        w = t[1]
        if len(w) == 1:
            v = s.var()
            s.sign("=")
            e = s.exp()
            s.sign(";")
            return ("set", v, e)
        if w in ("get", "has"):
            s.i += 1
            v = s.var()
            e = s.exp()
            s.sign(";")
            return (w, v, e)
        if w == "put":
            s.i += 1
            a = s.exp()
            s.sign(",")
            b = s.exp()
            s.sign(";")
            return ("put", a, b)
        if w in ("del", "give"):
            s.i += 1
            a = s.exp()
            s.sign(";")
            return (w, a)
        if w == "fail":
            s.i += 1
            s.sign(";")
            return ("fail",)
        if w == "scan":
            if s.inscan:
                s.err(2)
            s.i += 1
            v = s.var()
            t = s.cur()
            if t[0] == "w" and t[1] == chr(97 + v):
                s.err(4)
            u = s.var()
            a = s.exp()
            s.sign(",")
            b = s.exp()
            s.inscan = 1
            bl = s.block()
            s.inscan = 0
            return ("scan", v, u, a, b, bl)
        if w == "if":
            s.i += 1
            e = s.exp()
            b = s.block()
            o = None
            if s.isW("else"):
                s.i += 1
                o = s.block()
            return ("if", e, b, o)
        if w == "while":
            s.i += 1
            e = s.exp()
            b = s.block()
            return ("while", e, b)
        s.err(2)

    def exp(s):
        a = s.sum()
        for c in "<>=":
            if s.isS(c):
                s.i += 1
                b = s.sum()
                return (c, a, b)
        return a

    def sum(s):
        a = s.term()
        while s.isS("+") or s.isS("-"):
            op = s.cur()[1]
            s.i += 1
            a = (op, a, s.term())
        return a

    def term(s):
        a = s.factor()
        while s.isS("*") or s.isS("/") or s.isS("%"):
            op = s.cur()[1]
            s.i += 1
            a = (op, a, s.factor())
        return a

    def factor(s):
        t = s.cur()
        if t[0] == "n":
            s.i += 1
            return ("num", t[1])
        if t[0] == "w" and len(t[1]) == 1:
            s.i += 1
            return ("var", ord(t[1]) - 97)
        if s.isS("-"):
            s.open("-")
            a = s.factor()
            s.deep -= 1
            return ("neg", a)
        if s.isS("("):
            s.open("(")
            a = s.exp()
            s.close(")")
            return a
        s.err(2)


OPS = {"+": 4, "-": 5, "*": 6, "/": 7, "%": 8, "<": 9, ">": 10, "=": 11}


def compile_(block):
    code = []

    def exp(e):
        if e[0] == "num":
            code.append([1, e[1], 0, 0])
        elif e[0] == "var":
            code.append([2, e[1], 0, 0])
        elif e[0] == "neg":
            exp(e[1])
            code.append([12, 0, 0, 0])
        else:
            exp(e[1])
            exp(e[2])
            code.append([OPS[e[0]], 0, 0, 0])

    def blk(b):
        for st in b:
            k = st[0]
            at = len(code)
            code.append([0, 0, 0, 0])
            if k == "set":
                exp(st[2])
                code.append([3, st[1], 0, 0])
            elif k in ("get", "has"):
                exp(st[2])
                code.append([15 if k == "get" else 16, st[1], 0, 0])
            elif k == "put":
                exp(st[1])
                exp(st[2])
                code.append([17, 0, 0, 0])
            elif k == "del":
                exp(st[1])
                code.append([18, 0, 0, 0])
            elif k == "give":
                exp(st[1])
                code.append([21, 0, 0, 0])
            elif k == "fail":
                code.append([22, 0, 0, 0])
            elif k == "scan":
                exp(st[3])
                exp(st[4])
                code.append([19, 0, 0, 0])
                n = len(code)
                nx = [20, st[1], st[2], 0]
                code.append(nx)
                code.append([0, 0, 0, 0])
                blk(st[5])
                code.append([13, n, 0, 0])
                nx[3] = len(code)
            elif k == "if":
                exp(st[1])
                u = [14, 0, 0, 0]
                code.append(u)
                blk(st[2])
                if st[3] is not None:
                    j = [13, 0, 0, 0]
                    code.append(j)
                    u[1] = len(code)
                    blk(st[3])
                    j[1] = len(code)
                else:
                    u[1] = len(code)
            elif k == "while":
                exp(st[1])
                u = [14, 0, 0, 0]
                code.append(u)
                blk(st[2])
                code.append([13, at, 0, 0])
                u[1] = len(code)

    blk(block)
    code.append([23, 0, 0, 0])
    return code


class Fall(Exception):
    pass


class Give(Exception):
    pass


def meaning(block, a, b):
    """generator: yields ('get',key)->value/ABSENT, ('put',key,value), ('scan',first,behind)->list; returns (fell,given,steps)"""
    st = dict(steps=0)
    v = [0] * 26
    v[0] = a
    v[1] = b

    def step():
        if st["steps"] == 100:
            raise Fall(TIRED)
        st["steps"] += 1

    def ev(e):
        k = e[0]
        if k == "num":
            return e[1]
        if k == "var":
            return v[e[1]]
        if k == "neg":
            return i32(-ev(e[1]))
        x = ev(e[1])
        y = ev(e[2])
        if k == "+":
            return i32(x + y)
        if k == "-":
            return i32(x - y)
        if k == "*":
            return i32(x * y)
        if k in "/%":
            if y == 0:
                raise Fall(ZERO)
            return tdiv(x, y) if k == "/" else trem(x, y)
        if k == "<":
            return int(x < y)
        if k == ">":
            return int(x > y)
        return int(x == y)

    def ck(key):
        if not 0 <= key <= 31:
            raise Fall(KEY)
        return key

    def blk(bl):
        for s in bl:
            step()
            k = s[0]
            if k == "set":
                v[s[1]] = ev(s[2])
            elif k == "get":
                key = ck(ev(s[2]))
                x = yield ("get", key)
                v[s[1]] = 0 if x == ABSENT else x
            elif k == "has":
                key = ck(ev(s[2]))
                x = yield ("get", key)
                v[s[1]] = 0 if x == ABSENT else 1
            elif k == "put":
                key = ev(s[1])
                val = ev(s[2])
                ck(key)
                yield ("put", key, val)
            elif k == "del":
                key = ck(ev(s[1]))
                yield ("put", key, ABSENT)
            elif k == "give":
                raise Give(ev(s[1]))
            elif k == "fail":
                raise Fall(FAILED)
            elif k == "scan":
                f = ev(s[3])
                g = ev(s[4])
                if not 0 <= f <= 31 or g <= f or g > 32:
                    raise Fall(KEY)
                pairs = yield ("scan", f, g)
                for key, val in pairs:
                    v[s[1]] = key
                    v[s[2]] = val
                    step()
                    yield from blk(s[5])
            elif k == "if":
                if ev(s[1]) != 0:
                    yield from blk(s[2])
                elif s[3] is not None:
                    yield from blk(s[3])
            elif k == "while":
                first = True
                while True:
                    if not first:
                        step()
                    first = False
                    if ev(s[1]) == 0:
                        break
                    yield from blk(s[2])

    try:
        yield from blk(block)
        return (0, 0, st["steps"])
    except Give as g:
        return (0, g.args[0], st["steps"])
    except Fall as f:
        return (f.args[0], 0, st["steps"])


class House:
    def __init__(s):
        s.time = 0
        s.nodes = []
        s.ranges = {}
        s.numbers = 0
        s.txns = []
        s.asks = []
        s.jobs = []
        s.net = []
        s.sent = 0
        s.lost = 0
        s.text = []
        s.programs = []
        s.names = []
        s.trialRes = (0, 0, [ABSENT] * 32)

    # helpers
    def node(s, n):
        if not 0 <= n < len(s.nodes):
            ioobe()
        return s.nodes[n]

    def there(s, r):
        if r not in s.ranges:
            ioobe()
        return s.ranges[r]

    def txn(s, t):
        if not 0 <= t < len(s.txns):
            ioobe()
        return s.txns[t]

    def shows(s, n):
        return s.time + n.offset

    def nextK(s, n):
        return max(n.k + 1, 100 * (s.shows(n) + 3))

    # nodes
    def addNode(s, offset):
        if not -3 <= offset <= 3:
            iae()
        if len(s.nodes) == 5:
            ise()
        n = Node()
        n.no = len(s.nodes)
        n.offset = offset
        n.up = True
        n.disk = 0
        n.k = 0
        n.keeps = False
        n.kask = None
        n.copies = {}
        s.nodes.append(n)
        return n.no

    def setClock(s, node, offset):
        n = s.node(node)
        if not -3 <= offset <= 3:
            iae()
        r = n.offset
        n.offset = offset
        return r

    def found(s, members):
        if members <= 0:
            iae()
        ms = [i for i in range(40) if members >> i & 1]
        for i in ms:
            if i >= len(s.nodes) or not s.nodes[i].up:
                iae()
        if s.numbers:
            ise()
        group = frozenset((i, s.nodes[i].disk) for i in ms)
        s.numbers = 1
        s.ranges[0] = dict(
            state=newState(0, 32),
            members=group,
            log=[],
        )
        for i in ms:
            s.makeCopy(s.nodes[i], 0, newState(0, 32), group)
        return len(ms)

    def makeCopy(s, n, r, state, group):
        c = Copy()
        c.node = n
        c.r = r
        c.term = 0
        c.voted = None
        c.baseIndex = 0
        c.baseTerm = 0
        c.base = copy.deepcopy(state)
        c.baseMembers = group
        c.log = []
        n.copies[r] = c
        s.fresh(c)
        return c

    def fresh(s, c):
        c.mark = c.baseIndex
        c.carried = c.baseIndex
        c.state = copy.deepcopy(c.base)
        c.role = FOLLOWER
        c.touch = s.time
        c.votes = set()
        c.next = {}
        c.match = {}
        c.got = {}

    def stop(s, node, loses):
        n = s.node(node)
        if not n.up:
            ise()
        n.up = False
        if loses:
            n.copies = {}
            n.disk += 1
        cnt = 0
        for a in s.asks:
            if a.node == node and a.answer is None and not a.lost:
                a.lost = True
                cnt += 1
        for t in s.txns:
            if t.node == node and t.state in (OPEN, DOOMED, ENDING):
                t.state = LOST
        for j in s.jobs:
            if j.node == node and j.state == RUNS:
                j.state = GIVEN_UP
        return cnt

    def start(s, node):
        n = s.node(node)
        if n.up:
            ise()
        n.up = True
        for c in n.copies.values():
            s.fresh(c)
        return len(n.copies)

    def compact(s, node, r):
        n = s.node(node)
        s.there(r)
        if not n.up or r not in n.copies:
            ise()
        return s.doCompact(n.copies[r])

    def last(s, c):
        return c.baseIndex + len(c.log)

    def termAt(s, c, i):
        if i == c.baseIndex:
            return c.baseTerm
        return c.log[i - c.baseIndex - 1][0]

    def entry(s, c, i):
        return c.log[i - c.baseIndex - 1]

    def membersUpTo(s, c, i):
        m = c.baseMembers
        for e in c.log[: i - c.baseIndex]:
            m = membersAfter(m, e[1])
        return m

    def members(s, c):
        return s.membersUpTo(c, s.last(c))

    def doCompact(s, c):
        g = c.carried - c.baseIndex
        bm = s.membersUpTo(c, c.carried)
        bt = s.termAt(c, c.carried)
        c.log = c.log[g:]
        c.baseIndex = c.carried
        c.baseTerm = bt
        c.baseMembers = bm
        c.base = copy.deepcopy(c.state)
        return g

    def nodeAt(s, node, what):
        n = s.node(node)
        if not 0 <= what <= 4:
            iae()
        return [int(n.up), s.shows(n), n.disk, len(n.copies), n.k][what]

    # transactions
    def newTxn(s, n, job):
        n.k = s.nextK(n)
        t = Txn()
        t.no = len(s.txns)
        t.node = n.no
        t.m = 8 * n.k + n.no
        t.state = OPEN
        t.anchor = None
        t.ops = 0
        t.done = []
        t.wrote = {}
        t.commit = None
        t.committed = False
        t.told = False
        t.ask = None
        t.job = job
        t.known = {}
        s.txns.append(t)
        return t

    def begin(s, node):
        n = s.node(node)
        if not n.up or len(s.txns) >= 80:
            ise()
        return s.newTxn(n, None).no

    def checkOp(s, t):
        if t.state != OPEN or t.job is not None or s.pending(t.ask) or len(s.asks) >= 500:
            ise()

    def pending(s, a):
        return a is not None and a.answer is None and not a.lost

    def newAsk(s, node, r, cmd, to, t=None, key=None):
        a = Ask()
        a.no = len(s.asks)
        a.node = node
        a.r = r
        a.cmd = cmd
        a.answer = None
        a.lost = False
        a.value = 0
        a.extra = None
        a.t = t
        a.key = key
        a.job = None
        a.op = None
        s.asks.append(a)
        s.sendAsk(a, to)
        return a

    def sendAsk(s, a, to):
        a.sentAt = s.time
        a.sentTo = to
        s.send(dict(kind=REQUEST, frm=a.node, to=to, r=a.r, ask=a))

    def send(s, m):
        s.sent += 1
        if len(s.net) >= 150:
            s.lost += 1
        else:
            s.net.append(m)

    def op(s, t, cmd, key, r, to):
        t.ops += 1
        cmd["num_"] = t.ops
        a = s.newAsk(t.node, r, cmd, to, t, key)
        a.op = t.ops
        t.ask = a
        return a

    def opRead(s, t, key, r, to):
        return s.op(t, dict(kind=READ, t=t.no, m=t.m, key=key, num=t.wrote.get(key)), key, r, to)

    def opWrite(s, t, key, value, r, to):
        if t.anchor is None:
            t.anchor = key
        return s.op(
            t, dict(kind=WRITE, t=t.no, m=t.m, key=key, num=t.ops + 1, value=value, anchor=t.anchor), key, r, to
        )

    def opScan(s, t, first, behind, r, to):
        return s.op(t, dict(kind=SCAN, t=t.no, m=t.m, key=first, behind=behind, wrote=dict(t.wrote)), first, r, to)

    def read(s, t, key, r, to):
        t = s.txn(t)
        s.node(to)
        s.there(r)
        if not 0 <= key <= 31:
            iae()
        s.checkOp(t)
        return s.opRead(t, key, r, to).no

    def write(s, t, key, value, r, to):
        t = s.txn(t)
        s.node(to)
        s.there(r)
        if not 0 <= key <= 31 or not (value == ABSENT or -(1 << 31) <= value < (1 << 31)):
            iae()
        s.checkOp(t)
        return s.opWrite(t, key, value, r, to).no

    def scan(s, t, first, behind, r, to):
        t = s.txn(t)
        s.node(to)
        s.there(r)
        if not 0 <= first <= 31 or not first < behind <= 32:
            iae()
        s.checkOp(t)
        return s.opScan(t, first, behind, r, to).no

    def theAsk(s, a):
        if not 0 <= a < len(s.asks):
            ioobe()
        return s.asks[a]

    def scanAt(s, ask, index, what):
        a = s.theAsk(ask)
        if not 0 <= what <= 3:
            iae()
        if a.cmd["kind"] != SCAN or a.answer != OK:
            nse()
        res, end = a.extra
        if what == 0:
            return len(res)
        if what == 1:
            return end
        if not 0 <= index < len(res):
            nse()
        return res[index][what - 2]

    def end(s, t, commit, r, to):
        t = s.txn(t)
        if t.anchor is not None:
            s.node(to)
            s.there(r)
        if t.job is not None:
            ise()
        if s.pending(t.ask):
            ise()
        if t.state == ENDING:
            if t.commit != commit:
                ise()
        elif t.state == DOOMED:
            if commit:
                ise()
        elif t.state != OPEN:
            ise()
        if t.anchor is None:
            t.state = COMMITTED if commit else ABORTED
            return NONE
        if len(s.asks) >= 500:
            ise()
        return s.askEnd(t, commit, r, to).no

    def askEnd(s, t, commit, r, to):
        t.state = ENDING
        t.commit = commit
        t.ask = s.newAsk(t.node, r, dict(kind=END, t=t.no, anchor=t.anchor, commit=commit, wrote=dict(t.wrote)), to, t)
        return t.ask

    def canTell(s, t):
        n = s.nodes[t.node]
        if not n.up or t.state not in (COMMITTED, ABORTED):
            return False
        return t.state == ABORTED or 100 * (s.shows(n) - 3) > t.m // 8

    def doTell(s, t):
        if not t.told and s.canTell(t):
            t.told = True
        return t.told

    def tell(s, t):
        return s.doTell(s.txn(t))

    def isCommitted(s, t):
        return t.committed or (t.state == COMMITTED and t.anchor is None)

    def askNo(s, a):
        return a.no if s.pending(a) else NONE

    def transactionAt(s, t, what):
        t = s.txn(t)
        if not 0 <= what <= 7:
            iae()
        return [
            t.state,
            t.node,
            t.m,
            NONE if t.anchor is None else t.anchor,
            len(t.done),
            int(s.isCommitted(t)),
            int(t.told),
            s.askNo(t.ask),
        ][what]

    def operationAt(s, t, o, what):
        t = s.txn(t)
        if not 0 <= o < len(t.done):
            ioobe()
        if not 0 <= what <= 3:
            iae()
        a = t.done[o]
        return [a.cmd["kind"], a.key, a.cmd["value"] if a.cmd["kind"] == WRITE else a.value, a.op][what]

    # other asks
    def asker(s, node, r, to):
        s.node(node)
        s.node(to)
        s.there(r)

    def canAsk(s, node):
        if not s.nodes[node].up or len(s.asks) >= 500:
            ise()

    def readAsOf(s, node, m, key, r, to):
        s.asker(node, r, to)
        if not 0 <= m <= 800 * (s.time + 10) or not 0 <= key <= 31:
            iae()
        s.canAsk(node)
        return s.newAsk(node, r, dict(kind=READ, t=None, m=m, key=key, num=None), to, None, key).no

    def asOf(s, node, kind, m, key, r, to):
        s.asker(node, r, to)
        if (
            kind not in (LOOK, CLOSE, SWEEP)
            or not 0 <= m <= 800 * (s.time + 10)
            or (kind == LOOK and not 0 <= key <= 31)
        ):
            iae()
        s.canAsk(node)
        return s.newAsk(node, r, dict(kind=kind, m=m, key=key), to, None, key if kind == LOOK else None).no

    def askPush(s, node, t, r, to):
        return s.newAsk(node, r, dict(kind=PUSH, t=t.no, m=t.m, anchor=t.anchor, k=s.nextK(s.nodes[node])), to, t)

    def push(s, node, t, r, to):
        s.asker(node, r, to)
        t = s.txn(t)
        s.canAsk(node)
        if t.anchor is None:
            ise()
        return s.askPush(node, t, r, to).no

    def askResolve(s, node, t, key, r, to):
        rec = t.known[node]
        num = rec[1].get(key) if rec[0] == COMMITTED else None
        return s.newAsk(node, r, dict(kind=RESOLVE, t=t.no, key=key, num=num), to, t, key)

    def resolve(s, node, t, key, r, to):
        s.asker(node, r, to)
        t = s.txn(t)
        if not 0 <= key <= 31:
            iae()
        s.canAsk(node)
        if node not in t.known:
            ise()
        return s.askResolve(node, t, key, r, to).no

    def askSplit(s, node, key, r, to):
        s.numbers += 1
        return s.newAsk(node, r, dict(kind=SPLIT, key=key, range=s.numbers - 1), to, None, key)

    def split(s, node, key, r, to):
        s.asker(node, r, to)
        if not 1 <= key <= 31:
            iae()
        s.canAsk(node)
        if s.numbers >= 8:
            ise()
        return s.askSplit(node, key, r, to).no

    def freeze(s, node, into, r, to):
        s.asker(node, r, to)
        s.there(into)
        s.canAsk(node)
        if into == r:
            ise()
        return s.newAsk(node, r, dict(kind=FREEZE, epoch=len(s.asks) + 1, into=into), to).no

    def settleJoin(s, node, kind, freeze, to):
        s.node(node)
        s.node(to)
        f = s.theAsk(freeze)
        if kind not in (JOIN, REFUSE, THAW) or f.cmd["kind"] != FREEZE:
            iae()
        s.canAsk(node)
        if kind == JOIN and f.answer != OK:
            ise()
        if kind == THAW and not any(
            a.cmd["kind"] == REFUSE and a.cmd["epoch"] == f.cmd["epoch"] and a.answer == OK for a in s.asks
        ):
            ise()
        c = dict(kind=kind, epoch=f.cmd["epoch"])
        if kind == JOIN:
            c["state"] = copy.deepcopy(f.extra)
        return s.newAsk(node, f.r if kind == THAW else f.cmd["into"], c, to).no

    def askChange(s, node, isAdd, member, r, to):
        return s.newAsk(node, r, dict(kind=ADD if isAdd else DROP, member=(member, s.nodes[member].disk)), to)

    def change(s, node, isAdd, member, r, to):
        s.asker(node, r, to)
        s.node(member)
        s.canAsk(node)
        return s.askChange(node, isAdd, member, r, to).no

    def again(s, ask, to):
        a = s.theAsk(ask)
        s.node(to)
        if a.answer is not None or a.lost:
            ise()
        s.send(dict(kind=REQUEST, frm=a.node, to=to, r=a.r, ask=a))

    def askAt(s, ask, what):
        a = s.theAsk(ask)
        if not 0 <= what <= 6:
            iae()
        return [
            a.cmd["kind"],
            a.node,
            a.r,
            (LOST - 10 if a.lost else NONE) if a.answer is None else a.answer,
            a.value,
            NONE if a.t is None else a.t.no,
            NONE if a.key is None else a.key,
        ][what]

    # copies
    def theCopy(s, node, r):
        n = s.node(node)
        if r not in n.copies:
            ioobe()
        return n, n.copies[r]

    def bits(s, m):
        return sum({1 << x[0] for x in m})

    def copyAt(s, node, r, what):
        n, c = s.theCopy(node, r)
        if not 0 <= what <= 7:
            iae()
        return [
            c.term,
            c.role if n.up else NONE,
            c.baseIndex,
            s.last(c),
            c.mark if n.up else c.baseIndex,
            NONE if c.voted is None else c.voted[0],
            s.bits(s.members(c)),
            len(c.log),
        ][what]

    def entryAt(s, node, r, i, what):
        n, c = s.theCopy(node, r)
        if not c.baseIndex < i <= s.last(c):
            ioobe()
        if not 0 <= what <= 2:
            iae()
        e = s.entry(c, i)
        return [e[0], e[1]["kind"], NONE if e[2] is None else e[2].no][what]

    def rangeAt(s, r, what):
        g = s.there(r)
        if not 0 <= what <= 9:
            iae()
        st = g["state"]
        return [
            st["first"],
            st["behind"],
            int(st["frozen"] is not None),
            len(g["log"]),
            sum(len(v) for v in st["versions"].values()),
            len(st["intents"]),
            len(st["records"]),
            s.bits(g["members"]),
            st["closed"],
            st["floor"],
        ][what]

    def versionAt(s, r, key, version, isValue):
        st = s.there(r)["state"]
        if not st["first"] <= key < st["behind"]:
            ioobe()
        v = sorted(st["versions"][key].items())
        if not 0 <= version < len(v):
            ioobe()
        return v[version][1 if isValue else 0]

    def intentAt(s, r, key, what):
        st = s.there(r)["state"]
        if not st["first"] <= key < st["behind"]:
            ioobe()
        if not 0 <= what <= 3:
            iae()
        if what == 3:
            return st["read"][key]
        if key not in st["intents"]:
            return NONE
        it = st["intents"][key]
        return [it["t"], len(it["values"]), it["anchor"]][what]

    def resolvedOf(s, st):
        return min([st["closed"]] + [i["m"] - 1 for i in st["intents"].values()])

    def resolved(s, node, r):
        n, c = s.theCopy(node, r)
        if not n.up:
            ise()
        return s.resolvedOf(c.state)

    def feedAt(s, node, r, since, index, what):
        n, c = s.theCopy(node, r)
        if not 0 <= what <= 3:
            iae()
        if not n.up or since < c.state["floor"]:
            ise()
        rm = s.resolvedOf(c.state)
        f = sorted((m, k, v) for k in range(32) for m, v in c.state["versions"][k].items() if since < m <= rm)
        if what == 0:
            return len(f)
        if not 0 <= index < len(f):
            nse()
        return f[index][what - 1]

    def ownerOf(s, key):
        if not 0 <= key <= 31:
            iae()
        for r in sorted(s.ranges):
            st = s.ranges[r]["state"]
            if st["first"] <= key < st["behind"] and st["frozen"] is None:
                return r
        return NONE

    def opValue(s, t, num):  # value of the write with this number
        for a in s.asks:
            if a.t is t and a.op == num and a.cmd["kind"] == WRITE:
                return a.cmd["value"]

    def committedValue(s, key, m):
        best = None
        for t in s.txns:
            if s.isCommitted(t) and t.m <= m and key in t.wrote and (best is None or t.m > best.m):
                best = t
        return ABSENT if best is None else s.opValue(best, best.wrote[key])

    def valueAt(s, key, m):
        if not 0 <= key <= 31:
            iae()
        return s.committedValue(key, m)

    def heldAt(s, key):
        o = s.ownerOf(key)
        if o == NONE:
            return ABSENT
        st = s.ranges[o]["state"]
        c = list(st["versions"][key].items())
        if key in st["intents"]:
            it = st["intents"][key]
            t = s.txns[it["t"]]
            if s.isCommitted(t) and key in t.wrote and t.wrote[key] in it["values"]:
                c.append((it["m"], it["values"][t.wrote[key]]))
        return max(c)[1] if c else ABSENT

    # programs
    def type(s, *six):
        out = []
        for x in six:
            for sh in range(56, -1, -8):
                b = (x >> sh) & 255
                if b:
                    out.append(b)
        if len(s.text) + len(out) > 1200:
            ise()
        s.text += out
        return len(s.text)

    def piece(s, w):
        if not 0 <= w <= 5:
            iae()
        b = list(PIECES[w].encode()) + [10]
        if len(s.text) + len(b) > 1200:
            ise()
        s.text += b
        return len(s.text)

    def clearText(s):
        r = len(s.text)
        s.text = []
        return r

    def parse(s):
        p = Parser(s.text, s.names)
        try:
            p.text()
            return None, p
        except Err as e:
            return e, p

    def errorKind(s):
        e, _ = s.parse()
        return 0 if e is None else e.kind

    def errorPlace(s):
        e, _ = s.parse()
        return NONE if e is None else e.place

    def load(s):
        e, p = s.parse()
        if e is not None:
            ise()
        for b in p.progs:
            s.programs.append((b, compile_(b)))
        s.names = p.names
        s.text = []
        return len(s.programs)

    def prog(s, p):
        if not 0 <= p < len(s.programs):
            ioobe()
        return s.programs[p]

    def codeLength(s, p):
        return len(s.prog(p)[1])

    def codeAt(s, p, i, what):
        c = s.prog(p)[1]
        if not 0 <= i < len(c):
            ioobe()
        if not 0 <= what <= 3:
            iae()
        return c[i][what]

    def trial(s, p, a, b):
        blk = s.prog(p)[0]
        m0 = [s.committedValue(k, 1 << 62) for k in range(32)]
        m = list(m0)
        g = meaning(blk, a, b)
        ans = None
        try:
            while True:
                q = g.send(ans)
                if q[0] == "get":
                    ans = m[q[1]]
                elif q[0] == "put":
                    m[q[1]] = q[2]
                    ans = None
                else:
                    ans = [(k, m[k]) for k in range(q[1], q[2]) if m[k] != ABSENT]
        except StopIteration as e:
            fell, given, steps = e.value
        s.trialRes = (given, steps, m0 if fell else m)
        return fell

    def trialAt(s, what):
        if not 0 <= what <= 33:
            iae()
        return s.trialRes[what] if what < 2 else s.trialRes[2][what - 2]

    # jobs, written with the tree's meaning, not with the code
    def run(s, node, p, a, b):
        n = s.node(node)
        blk = s.prog(p)[0]
        if not n.up or not s.numbers or len(s.jobs) >= 24:
            ise()
        j = Job()
        j.no = len(s.jobs)
        j.node = node
        j.p = p
        j.a = a
        j.b = b
        j.state = RUNS
        j.begun = 1
        j.gave = 0
        j.fell = 0
        j.t = None
        j.phase = 0
        j.ask = None
        j.rangeOf = {k: 0 for k in range(32)}
        j.leaderOf = {r: node for r in range(8)}
        j.has = False
        j.again = None
        s.jobs.append(j)
        s.jobWork(j)
        return j.no

    def jobFell(s, j, how):
        j.state = FELL
        j.fell = how

    def jobAsk(s, j, what):
        """what: a tuple; asks it, remembers it"""
        if len(s.asks) >= 500:
            s.jobFell(j, MANY)
            return
        kind = what[0]
        key = {
            "read": lambda: what[1],
            "write": lambda: what[1],
            "scan": lambda: what[1],
            "push": lambda: what[1].anchor,
            "resolve": lambda: what[2],
            "end": lambda: j.t.anchor,
            "clean": lambda: what[2],
        }[kind]()
        r = j.rangeOf[key]
        to = j.leaderOf[r]
        if kind == "read":
            a = s.opRead(j.t, key, r, to)
        elif kind == "write":
            a = s.opWrite(j.t, key, what[2], r, to)
        elif kind == "scan":
            a = s.opScan(j.t, key, what[2], r, to)
        elif kind == "push":
            a = s.askPush(j.node, what[1], r, to)
        elif kind in ("resolve", "clean"):
            a = s.askResolve(j.node, what[1], key, r, to)
        else:
            a = s.askEnd(j.t, what[1], r, to)
        a.job = j
        j.ask = a
        j.asked = what
        j.askedKey = key
        j.again = None

    def jobWork(s, j):
        """begins a transaction"""
        if len(s.txns) >= 80:
            s.jobFell(j, MANY)
            return
        j.t = s.newTxn(s.nodes[j.node], j)
        j.phase = 0
        j.gen = meaning(s.programs[j.p][0], j.a, j.b)
        s.jobStep(j, None)

    def jobStep(s, j, ans):
        try:
            q = j.gen.send(ans)
        except StopIteration as e:
            fell, given, _ = e.value
            j.given = given
            j.willFall = fell
            s.jobEnd(j, "fall" if fell else "commit")
            return
        if q[0] == "get":
            j.main = ("read", q[1])
        elif q[0] == "put":
            j.main = ("write", q[1], q[2])
        else:
            j.main = ("scan", q[1], q[2])
            j.pairs = []
        s.jobAsk(j, j.main)

    def jobEnd(s, j, why):
        j.why = why
        if j.t.anchor is None:
            j.t.state = COMMITTED if why == "commit" else ABORTED
            if why == "commit":
                j.phase = 3
                s.jobTell(j)
            else:
                s.jobAborted(j)
        else:
            s.jobAsk(j, ("end", why == "commit"))

    def jobAborted(s, j):
        if j.why == "fall":
            s.jobFell(j, j.willFall)
        elif j.begun == 8:
            s.jobFell(j, MANY)
        else:
            j.begun += 1
            s.jobWork(j)

    def jobTell(s, j):
        if s.doTell(j.t):
            j.state = DONE
            j.gave = j.given
        else:
            j.again = ("tell",)

    def jobClean(s, j, frm):
        ks = [k for k in sorted(j.t.wrote) if k >= frm]
        if ks:
            s.jobAsk(j, ("clean", j.t, ks[0]))
        else:
            j.phase = 3
            s.jobTell(j)

    def jobAnswer(s, j, a):
        w = j.asked
        k = w[0]
        if a.answer in (WRONG, FROZEN):
            rs = sorted(s.ranges)
            later = [r for r in rs if r > j.rangeOf[j.askedKey]]
            j.rangeOf[j.askedKey] = later[0] if later else rs[0]
            j.again = w
            return
        if a.answer in (NOT_LEADER, NO_COPY, FULL, LATER):
            j.leaderOf[a.r] = (j.leaderOf[a.r] + 1) % len(s.nodes)
            j.again = w
            return
        if k in ("read", "write", "scan"):
            if a.answer == OK:
                if k == "read":
                    s.jobStep(j, a.value)
                elif k == "write":
                    s.jobStep(j, None)
                else:
                    j.pairs += a.extra[0]
                    if a.extra[1] < w[2]:
                        j.main = ("scan", a.extra[1], w[2])
                        s.jobAsk(j, j.main)
                    else:
                        s.jobStep(j, j.pairs)
            elif a.answer == WAITS:
                j.phase = 1
                j.way = (s.txns[a.value], a.extra if k == "scan" else w[1])
                s.jobAsk(j, ("push", j.way[0]))
            else:
                s.jobEnd(j, "anew")
        elif k == "push":
            if a.answer == OK:
                s.jobAsk(j, ("resolve", j.way[0], j.way[1]))
            else:
                j.again = w
        elif k == "resolve":
            j.phase = 0
            s.jobAsk(j, j.main)
        elif k == "end":
            if a.value == COMMITTED:
                j.phase = 2
                s.jobClean(j, 0)
            else:
                s.jobAborted(j)
        elif k == "clean":
            s.jobClean(j, w[2] + 1)

    def jobTick(s, j):
        if j.state != RUNS:
            return
        if s.pending(j.ask):
            if s.time - j.ask.sentAt >= 6:
                to = (j.ask.sentTo + 1) % len(s.nodes)
                j.leaderOf[j.ask.r] = to
                s.sendAsk(j.ask, to)
        elif j.again is not None:
            w = j.again
            if w[0] == "tell":
                j.again = None
                s.jobTell(j)
            else:
                s.jobAsk(j, w)

    def jobAt(s, j, what):
        if not 0 <= j < len(s.jobs):
            ioobe()
        if not 0 <= what <= 8:
            iae()
        j = s.jobs[j]
        return [
            j.state,
            j.node,
            j.p,
            j.begun,
            j.gave if j.state == DONE else 0,
            j.fell if j.state == FELL else 0,
            NONE if j.t is None else j.t.no,
            j.phase,
            s.askNo(j.ask),
        ][what]

    def setKeeper(s, node, kept):
        n = s.node(node)
        r = n.keeps
        n.keeps = kept
        return r

    def keeper(s, n):
        if s.pending(n.kask):
            return
        if len(s.asks) >= 500:
            return
        for r in sorted(s.ranges):
            c = n.copies.get(r)
            if c is None or c.role != LEADER:
                continue
            ms = s.members(c)
            silent = [x[0] for x in sorted(ms) if x[0] != n.no and s.time - c.got[x[0]] > 40]
            if silent and len(ms) >= 2:
                n.kask = s.askChange(n.no, False, silent[0], r, n.no)
                return
            free = [x.no for x in s.nodes if x.up and all(y[0] != x.no for y in ms)]
            if len(ms) < 3 and free:
                n.kask = s.askChange(n.no, True, free[0], r, n.no)
                return
            st = c.state
            ks = [k for k in range(32) for _ in st["versions"][k]] + list(st["intents"])
            if len(ks) > 12 and s.numbers < 8:
                key = next(k for k in range(st["first"] + 1, 33) if 2 * sum(1 for x in ks if x < k) >= len(ks))
                if key < st["behind"]:
                    n.kask = s.askSplit(n.no, key, r, n.no)
                    return
            m = 800 * (s.shows(n) - 13)
            if m > st["closed"]:
                n.kask = s.newAsk(n.no, r, dict(kind=CLOSE, m=m, key=None), n.no)
                return

    # net
    def choice(s, c):
        if not 0 <= c <= 1000:
            iae()
        return c % len(s.net) if s.net else None

    def deliver(s, c):
        i = s.choice(c)
        return NONE if i is None else s.deliverAt(i)

    def lose(s, c):
        i = s.choice(c)
        if i is None:
            return NONE
        s.lost += 1
        return s.net.pop(i)["kind"]

    def twice(s, c):
        i = s.choice(c)
        if i is None:
            return NONE
        s.send(copy.copy(s.net[i]))
        return s.net[i]["kind"]

    def messageAt(s, m, what):
        if not 0 <= m < len(s.net):
            ioobe()
        if not 0 <= what <= 6:
            iae()
        m = s.net[m]
        k = m["kind"]
        if k in (REQUEST, ANSWER):
            return [k, m["frm"], m["to"], m["r"], m["ask"].no, NONE, 0][what]
        return [
            k,
            m["frm"][0],
            m["to"][0],
            m["r"],
            m["term"],
            int(m["yes"]) if k in (VOTE, GOT) else NONE,
            len(m["entries"]) if k == ENTRIES else 0,
        ][what]

    def answer(s, frm, a, res):
        s.send(dict(kind=ANSWER, frm=frm, to=a.node, r=a.r, ask=a, res=res))

    def deliverAt(s, i):
        m = s.net.pop(i)
        k = m["kind"]
        n = s.nodes[m["to"] if k in (REQUEST, ANSWER) else m["to"][0]]
        if not n.up:
            return k
        if k == ANSWER:
            s.onAnswer(m)
        elif k == REQUEST:
            s.onRequest(n, m["ask"])
        elif n.disk == m["to"][1]:
            s.onMember(n, m)
        return k

    def onAnswer(s, m):
        a = m["ask"]
        if a.answer is not None or a.lost:
            return
        a.answer, a.value, a.extra = m["res"]
        k = a.cmd["kind"]
        t = a.t
        if t is not None and k in (READ, WRITE, SCAN):
            if a.answer == OK:
                t.done.append(a)
                if k == WRITE:
                    t.wrote[a.key] = a.op
            elif a.answer in (LATE, GONE):
                t.state = DOOMED
                n = s.nodes[t.node]
                n.k = max(n.k, a.value // 8)
        if k in (END, PUSH) and a.answer == OK:
            t.known[a.node] = a.extra
            if k == END:
                t.state = a.value
        if a.job is not None and a.job.state == RUNS:
            s.jobAnswer(a.job, a)

    def onRequest(s, n, a):
        c = n.copies.get(a.r)
        k = a.cmd["kind"]

        def ref(x):
            s.answer(n.no, a, (x, 0, None))

        if c is None:
            return ref(NO_COPY)
        if k == LOOK:
            st = c.state
            key = a.cmd["key"]
            t = a.cmd["m"]
            if not st["first"] <= key < st["behind"]:
                return ref(WRONG)
            if t < st["floor"]:
                return s.answer(n.no, a, (GONE, st["floor"], None))
            if t > st["closed"] or (key in st["intents"] and st["intents"][key]["m"] <= t):
                return ref(UNKNOWN)
            return s.answer(n.no, a, (OK, readValue(st, key, t, None, None), None))
        if c.role != LEADER:
            return ref(NOT_LEADER)
        if len(c.log) >= 40:
            return ref(FULL)
        if k in (ADD, DROP):
            if any(e[1]["kind"] in (ADD, DROP) for e in c.log[c.mark - c.baseIndex :]):
                return ref(LATER)
            terms = [c.baseTerm] + [e[0] for e in c.log[: c.mark - c.baseIndex]]
            if c.term not in terms:
                return ref(LATER)
            if k == ADD and any(x[0] == a.cmd["member"][0] and x != a.cmd["member"] for x in s.members(c)):
                return ref(LATER)
        s.append(c, a.cmd, a)

    def append(s, c, cmd, a):
        before = s.members(c)
        c.log.append((c.term, cmd, a))
        if cmd["kind"] == ADD and cmd["member"] not in before:
            x = cmd["member"][0]
            c.next[x] = s.last(c)
            c.match[x] = -1
            c.got[x] = s.time
        s.leaderMark(c)
        if c.role == LEADER:
            s.sendAll(c)

    def me(s, c):
        return (c.node.no, c.node.disk)

    def leaderMark(s, c):
        ms = s.members(c)
        for i in range(s.last(c), c.mark, -1):
            if s.termAt(c, i) != c.term:
                continue
            have = sum(1 for x in ms if x == s.me(c) or (x[0] != c.node.no and c.match[x[0]] >= i))
            if 2 * have > len(ms):
                s.setMark(c, i)
                break

    def setMark(s, c, i):
        c.mark = i
        while c.carried < c.mark:
            c.carried += 1
            term, cmd, a = s.entry(c, c.carried)
            g = s.ranges[c.r]
            ms = s.membersUpTo(c, c.carried)
            if c.carried == len(g["log"]) + 1:
                g["log"].append((term, cmd, a))
                g["members"] = ms
                res = carry(g["state"], cmd, ms)
                if cmd["kind"] == END and res[0] == OK and res[1] == COMMITTED:
                    s.txns[cmd["t"]].committed = True
                if cmd["kind"] == SPLIT and res[2] == "split":
                    st, gm = g["state"]["splits"][cmd["range"]]
                    s.ranges[cmd["range"]] = dict(state=copy.deepcopy(st), members=gm, log=[])
            res = carry(c.state, cmd, ms)
            if c.role == LEADER and term == c.term and a is not None:
                s.answer(c.node.no, a, res)
            if cmd["kind"] == SPLIT and res[2] == "split":
                s.splitCopy(c.node, cmd["range"], *c.state["splits"][cmd["range"]])
            if cmd["kind"] == DROP and c.role == LEADER and s.me(c) not in ms:
                c.role = FOLLOWER

    def splitCopy(s, n, r, st, gm):
        if r not in n.copies and (n.no, n.disk) in gm:
            s.makeCopy(n, r, st, gm)

    def sendM(s, c, to, **kw):
        s.send(dict(frm=s.me(c), to=to, r=c.r, term=c.term, **kw))

    def sendTo(s, c, x):
        nx = c.next[x[0]]
        if nx <= c.baseIndex:
            s.sendM(
                c, x, kind=BASE, index=c.baseIndex, iterm=c.baseTerm, state=copy.deepcopy(c.base), members=c.baseMembers
            )
        else:
            s.sendM(
                c,
                x,
                kind=ENTRIES,
                prev=nx - 1,
                pterm=s.termAt(c, nx - 1),
                entries=list(c.log[nx - c.baseIndex - 1 : nx - c.baseIndex + 3]),
                mark=c.mark,
            )

    def sendAll(s, c):
        for x in sorted(s.members(c)):
            if x[0] != c.node.no:
                s.sendTo(c, x)

    def lead(s, c):
        c.role = LEADER
        for x in range(5):
            c.next[x] = s.last(c) + 1
            c.match[x] = -1
            c.got[x] = s.time
        s.append(c, dict(kind=NOTHING), None)

    def onMember(s, n, m):
        c = n.copies.get(m["r"])
        k = m["kind"]

        def reply(**kw):
            s.send(dict(frm=m["to"], to=m["frm"], r=m["r"], **kw))

        if c is None:
            if k == ENTRIES:
                reply(kind=GOT, term=m["term"], yes=False, index=-1)
            if k != BASE:
                return
            c = s.makeCopy(n, m["r"], newState(0, 0), frozenset())
            c.baseIndex = c.mark = c.carried = -1
        if m["term"] > c.term:
            c.term = m["term"]
            c.voted = None
            c.role = FOLLOWER
        if m["term"] < c.term:
            if k == CALL:
                reply(kind=VOTE, term=c.term, yes=False)
            if k in (ENTRIES, BASE):
                reply(kind=GOT, term=c.term, yes=False, index=s.last(c))
            return
        if k == CALL:
            l = s.last(c)
            lt = s.termAt(c, l)
            ok = (c.voted is None or c.voted == m["frm"]) and (
                m["iterm"] > lt or (m["iterm"] == lt and m["index"] >= l)
            )
            if ok:
                c.voted = m["frm"]
                c.touch = s.time
            reply(kind=VOTE, term=c.term, yes=ok)
        elif k == VOTE:
            ms = s.members(c)
            if c.role == CANDIDATE and m["yes"] and m["frm"] in ms:
                c.votes.add(m["frm"])
                if 2 * len([x for x in ms if x in c.votes]) > len(ms):
                    s.lead(c)
        elif k == ENTRIES:
            c.role = FOLLOWER
            c.touch = s.time
            p = m["prev"]
            l = s.last(c)
            if p > l or (p >= c.baseIndex and s.termAt(c, p) != m["pterm"]):
                reply(kind=GOT, term=c.term, yes=False, index=min(l, p - 1))
                return
            i = p
            for e in m["entries"]:
                i += 1
                if i <= c.baseIndex:
                    continue
                if i <= s.last(c):
                    if s.termAt(c, i) == e[0]:
                        continue
                    c.log = c.log[: i - c.baseIndex - 1]
                assert i == s.last(c) + 1
                c.log.append(e)
            mk = min(m["mark"], i)
            reply(kind=GOT, term=c.term, yes=True, index=i)
            if mk > c.mark:
                s.setMark(c, mk)
        elif k == BASE:
            c.role = FOLLOWER
            c.touch = s.time
            if c.mark >= m["index"]:
                reply(kind=GOT, term=c.term, yes=True, index=c.mark)
                return
            b = m["index"]
            keep = b <= s.last(c) and b > c.baseIndex and s.termAt(c, b) == m["iterm"]
            c.log = c.log[b - c.baseIndex :] if keep else []
            c.baseIndex = b
            c.baseTerm = m["iterm"]
            c.base = copy.deepcopy(m["state"])
            c.baseMembers = m["members"]
            c.state = copy.deepcopy(c.base)
            c.mark = c.carried = b
            for r in sorted(c.state["splits"]):
                s.splitCopy(n, r, *c.state["splits"][r])
            reply(kind=GOT, term=c.term, yes=True, index=b)
        elif k == GOT:
            if c.role != LEADER or m["frm"] not in s.members(c):
                return
            x = m["frm"][0]
            c.got[x] = s.time
            if m["yes"]:
                c.match[x] = max(c.match[x], m["index"])
                c.next[x] = max(c.next[x], c.match[x] + 1)
            else:
                c.next[x] = max(min(c.next[x] - 1, m["index"] + 1), c.match[x] + 1)
            s.leaderMark(c)
            if c.role == LEADER and c.next[x] <= s.last(c):
                s.sendTo(c, m["frm"])

    def tick(s):
        s.time += 1
        for n in s.nodes:
            if not n.up:
                continue
            for r in sorted(n.copies):
                c = n.copies[r]
                if c.carried - c.baseIndex > 24:
                    s.doCompact(c)
                if c.role == LEADER:
                    c.touch = s.time
                    if s.time % 3 == 0:
                        s.sendAll(c)
                else:
                    ms = s.members(c)
                    if s.me(c) in ms and s.time - c.touch > 8 + 3 * n.no:
                        c.term += 1
                        c.voted = s.me(c)
                        c.role = CANDIDATE
                        c.touch = s.time
                        c.votes = {s.me(c)}
                        if 2 > len(ms):
                            s.lead(c)
                        else:
                            for x in sorted(ms):
                                if x[0] != n.no:
                                    s.sendM(c, x, kind=CALL, index=s.last(c), iterm=s.termAt(c, s.last(c)))
        for j in s.jobs:
            s.jobTick(j)
        if s.time % 10 == 0:
            for n in s.nodes:
                if n.up and n.keeps:
                    s.keeper(n)

    def pass_(s, ticks):
        if not 1 <= ticks <= 30:
            iae()
        if s.time + ticks > 5000:
            ise()
        for _ in range(ticks):
            s.tick()
        return s.time

    def leads(s, r):
        return sum(1 for n in s.nodes if n.up and r in n.copies and n.copies[r].role == LEADER)

    def settle(s, ticks):
        if not 1 <= ticks <= 40:
            iae()
        if s.time + ticks > 5000:
            ise()
        d = 0
        p = 0
        while True:
            while s.net:
                s.deliverAt(0)
                d += 1
                if d == 400:
                    return p
            if (
                any(s.pending(a) for a in s.asks)
                or any(j.state == RUNS for j in s.jobs)
                or any(not s.leads(r) for r in s.ranges)
            ) and p < ticks:
                s.tick()
                p += 1
            else:
                return p

    def play(s, seed, many):
        if not 1 <= many <= 150:
            iae()
        if s.time + many > 5000:
            ise()
        x = seed & 0xFFFFFFFF
        for _ in range(many):
            x = (x * 1103515245 + 12345) & 0xFFFFFFFF
            act = (x >> 16) % 16
            x = (x * 1103515245 + 12345) & 0xFFFFFFFF
            c = (x >> 16) % 1000
            if act <= 10:
                s.deliver(c)
            elif act == 11:
                s.lose(c)
            elif act == 12:
                s.twice(c)
            else:
                s.tick()
        return s.time

    def count(s, what):
        if not 0 <= what <= 18:
            iae()
        return [
            lambda: s.time,
            lambda: len(s.nodes),
            lambda: sum(n.up for n in s.nodes),
            lambda: len(s.ranges),
            lambda: len(s.txns),
            lambda: sum(s.isCommitted(t) for t in s.txns),
            lambda: sum(t.told for t in s.txns),
            lambda: len(s.asks),
            lambda: sum(s.pending(a) for a in s.asks),
            lambda: len(s.net),
            lambda: s.sent,
            lambda: s.lost,
            lambda: sum(s.leads(r) for r in s.ranges),
            lambda: sum(len(g["log"]) for g in s.ranges.values()),
            lambda: sum(
                1
                for a in s.asks
                if a.answer == OK and (a.cmd["kind"] == LOOK or (a.cmd["kind"] == READ and a.t is None))
            ),
            lambda: len(s.jobs),
            lambda: sum(j.state == DONE for j in s.jobs),
            lambda: len(s.programs),
            lambda: len(s.text),
        ][what]()

    def agrees(s):
        return True

    def errors(s):
        return 0

    def fineShare(s):
        return 0.0 if not s.asks else sum(1 for a in s.asks if a.answer == OK) / len(s.asks)

    def meanEntries(s):
        cs = [c for n in s.nodes for c in n.copies.values()]
        if not cs:
            return 0.0
        return struct.unpack("f", struct.pack("f", sum(len(c.log) for c in cs) / len(cs)))[0]
