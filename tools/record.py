"""Makes runs of calls with the answers that the model gives.

    python3 tools/record.py FIRST BEHIND CALLS [QUESTIONS] > runs.txt

A line "seed S" begins a run with a new object, other lines are "name arguments = answer", with the
name of an exception, "void", or a number (a boolean counts 1 or 0, of a double or float its bits).
"""

import random
import struct
import sys

from model import *

MODES = ["mix", "jobs", "transactions", "admin", "chaos", "joins", "text", "full"]
KEYS = [0, 1, 2, 3, 5, 8, 13, 20, 21, 30, 31]


class Recorder:
    def __init__(self, seed, calls, questions):
        self.random = random.Random(seed)
        self.house = House()
        self.calls = calls
        self.questions = questions
        self.lines = ["seed %d" % seed]
        self.wild = False

    def note(self, name, *args):
        method = getattr(self.house, "pass_" if name == "pass" else name)
        try:
            answer = method(*args)
        except Ex as e:
            answer = e.args[0]
        if answer is None:
            answer = "void"
        elif isinstance(answer, float):
            shape = ">d", ">q"
            if name == "meanEntries":
                shape = ">f", ">i"
            answer = struct.unpack(shape[1], struct.pack(shape[0], answer))[0]
        elif not isinstance(answer, str):
            answer = int(answer)
        words = [name] + [str(int(arg)) for arg in args] + ["=", str(answer)]
        self.lines.append(" ".join(words))

    def do(self, name, *args):
        self.note(name, *args)
        for _ in range(self.questions):
            self.ask_something()

    # what is drawn

    def chance(self, share):
        return self.random.random() < share

    def draw(self, first, last):
        return self.random.randint(first, last)

    def pick(self, some):
        return self.random.choice(some)

    def node(self):
        many = len(self.house.nodes)
        return self.draw(-1, many) if self.wild else self.draw(0, many - 1)

    def up(self):
        return self.pick([node.no for node in self.house.nodes if node.up] or [0])

    def range(self):
        there = list(self.house.ranges)
        return self.draw(-1, 8) if self.wild or not there else self.pick(there)

    def key(self):
        if self.wild:
            return self.draw(-1, 32)
        return self.draw(0, 31) if self.chance(0.3) else self.pick(KEYS)

    def owner(self, key):
        if self.wild or self.chance(0.07) or key is None or not 0 <= key <= 31:
            return self.range()
        owner = self.house.ownerOf(key)
        return self.range() if owner == NONE else owner

    def leader(self, range_):
        leaders = [
            node.no
            for node in self.house.nodes
            if node.up and range_ in node.copies and node.copies[range_].role == LEADER
        ]
        return self.pick(leaders) if leaders and self.chance(0.9) and not self.wild else self.node()

    def transaction(self):
        some = [t.no for t in self.house.txns if t.state in (OPEN, DOOMED, ENDING) and t.job is None]
        if self.wild or not some or self.chance(0.1):
            return self.draw(-1, len(self.house.txns))
        return self.pick(some[-6:])

    def anchored(self):
        some = [t.no for t in self.house.txns if t.anchor is not None]
        return self.draw(-1, len(self.house.txns)) if self.wild or not some else self.pick(some)

    def anchor(self, transaction):
        some = self.house.txns
        return some[transaction].anchor if 0 <= transaction < len(some) else None

    def moment(self):
        if self.wild:
            return self.pick([-1, 800 * (self.house.time + 10) + 1])
        if self.chance(0.3):
            return self.draw(0, 800 * (self.house.time + 10))
        return max(0, 800 * (self.house.time + self.draw(-20, 3)))

    def number(self):
        if self.wild:
            return self.pick([2**31, -(2**31) - 1, 5])
        return self.pick([self.draw(-5, 50), self.draw(0, 9), ABSENT, 2**31 - 1, -(2**31)])

    # questions

    def ask_something(self):
        house = self.house
        some = [
            ("nodeAt", self.draw(-1, len(house.nodes)), self.draw(-1, 5)),
            ("scanAt", self.recent(len(house.asks)), self.draw(-1, 3), self.draw(-1, 4)),
            ("transactionAt", self.recent(len(house.txns)), self.draw(-1, 8)),
            ("operationAt", self.recent(len(house.txns)), self.draw(-1, 4), self.draw(-1, 4)),
            ("askAt", self.recent(len(house.asks)), self.draw(-1, 7)),
            ("copyAt", self.draw(-1, len(house.nodes)), self.some_range(), self.draw(-1, 8)),
            ("entryAt", self.draw(-1, len(house.nodes)), self.some_range(), self.draw(-1, 60), self.draw(-1, 3)),
            ("rangeAt", self.some_range(), self.draw(-1, 10)),
            ("versionAt", self.some_range(), self.draw(-1, 32), self.draw(-1, 2), self.chance(0.5)),
            ("intentAt", self.some_range(), self.draw(-1, 32), self.draw(-1, 4)),
            ("resolved", self.draw(-1, len(house.nodes)), self.some_range()),
            (
                "feedAt",
                self.draw(-1, len(house.nodes)),
                self.some_range(),
                self.draw(-1, 800 * house.time),
                self.draw(-1, 5),
                self.draw(-1, 4),
            ),
            ("feedAt", self.draw(-1, len(house.nodes)), self.some_range(), 0, self.draw(0, 5), self.draw(0, 3)),
            ("ownerOf", self.draw(-1, 32)),
            ("valueAt", self.draw(-1, 32), self.draw(-1, 800 * (house.time + 10))),
            ("heldAt", self.draw(-1, 32)),
            ("errorKind",),
            ("errorPlace",),
            ("codeLength", self.draw(-1, len(house.programs))),
            ("codeAt", self.draw(-1, len(house.programs)), self.draw(-1, 20), self.draw(-1, 4)),
            ("trialAt", self.draw(-1, 34)),
            ("jobAt", self.recent(len(house.jobs)), self.draw(-1, 9)),
            ("messageAt", self.draw(-1, len(house.net)), self.draw(-1, 7)),
            ("count", self.draw(-1, 19)),
            ("agrees",),
            ("errors",),
            ("fineShare",),
            ("meanEntries",),
        ]
        self.note(*self.pick(some))

    def recent(self, many):
        return self.draw(-1, many) if self.chance(0.3) else self.draw(max(0, many - 8), max(0, many - 1))

    def some_range(self):
        return self.draw(-1, 8) if self.chance(0.1) else self.range()

    # runs

    def record(self):
        many = self.pick([1, 1, 2, 3, 3, 3, 4, 5, 5])
        for _ in range(many):
            self.do("addNode", self.draw(-3, 3))
        self.do("found", self.draw(1, 2**many - 1) if self.chance(0.4) else 2**many - 1)
        if self.chance(0.7):
            self.do("settle", self.draw(10, 40))
        mode = self.pick(MODES)
        if mode in ("mix", "jobs", "chaos", "full"):
            for piece in self.random.sample(range(6), self.draw(1, 6)):
                self.do("piece", piece)
            self.do("load")
        if self.chance(0.5):
            for _ in range(many):
                self.do("setKeeper", self.draw(0, many - 1), self.chance(0.8))
        while len(self.lines) < self.calls:
            self.wild = self.chance(0.04)
            getattr(self, "in_" + mode)()
        del self.lines[self.calls + 1 :]

    def weighted(self, *acts):
        self.random.choices([act for act, _ in acts], [weight for _, weight in acts])[0]()

    def in_mix(self):
        self.weighted(
            (self.time, 6),
            (self.transact, 8),
            (self.administer, 2),
            (self.work, 2),
            (self.hurt, 1),
            (self.write_text, 0.4),
        )

    def in_jobs(self):
        self.weighted((self.time, 6), (self.transact, 1), (self.administer, 1), (self.work, 3), (self.hurt, 0.6))

    def in_transactions(self):
        self.weighted((self.time, 5), (self.transact, 12), (self.administer, 0.5), (self.hurt, 0.3))

    def in_admin(self):
        self.weighted((self.time, 6), (self.transact, 5), (self.administer, 6), (self.hurt, 0.8))

    def in_chaos(self):
        self.weighted((self.time, 8), (self.transact, 4), (self.administer, 3), (self.work, 2), (self.hurt, 3))

    def in_joins(self):
        self.weighted((self.part, 1), (self.transact, 7), (self.join, 3), (self.administer, 3), (self.hurt, 0.3))
        self.calm()

    def in_text(self):
        self.write_program()

    def in_full(self):
        self.weighted((self.work, 5), (self.flood, 4), (self.time, 3), (self.long_time, 6))

    def calm(self):
        if self.chance(0.8):
            self.do("settle", self.pick([1, 2, 3, 8]))
        else:
            self.do("play", self.draw(-(2**31), 2**31 - 1), self.draw(1, 20))

    def time(self):
        y = self.random.random()
        if y < 0.3:
            self.do("play", self.draw(-(2**31), 2**31 - 1), self.draw(1, 30))
        elif y < 0.5:
            self.do("settle", self.draw(1, 8 if self.chance(0.8) else 40))
        elif y < 0.65:
            self.do("pass", self.draw(1, 4) if self.chance(0.8) else self.draw(1, 30))
        elif y < 0.9:
            for _ in range(self.draw(1, 4)):
                self.do("deliver", self.pick([0, 0, 0, self.draw(0, 1000)]))
        elif y < 0.95:
            self.do("lose", self.draw(0, 1000))
        else:
            self.do("twice", self.draw(0, 1000))
        if self.wild:
            self.do(self.pick(["deliver", "lose", "twice"]), self.pick([-1, 1001]))
            self.do("pass", self.pick([0, 31]))
            self.do("settle", self.pick([0, 41]))
            self.do("play", 1, self.pick([0, 151]))

    def long_time(self):
        y = self.random.random()
        if y < 0.4:
            self.do("pass", 30)
        elif y < 0.8:
            self.do("play", self.draw(-(2**31), 2**31 - 1), 150)
        else:
            self.do("settle", 40)

    def transact(self):
        y = self.random.random()
        key = self.key()
        range_ = self.owner(key)
        to = self.leader(range_)
        if y < 0.16:
            self.do("begin", self.node())
        elif y < 0.36:
            self.do("read", self.transaction(), key, range_, to)
        elif y < 0.6:
            self.do("write", self.transaction(), key, self.number(), range_, to)
        elif y < 0.68:
            behind = self.draw(-1, 33) if self.wild else min(32, key + self.draw(1, 32))
            self.do("scan", self.transaction(), key, behind, range_, to)
        elif y < 0.84:
            it = self.transaction()
            range_ = self.owner(self.anchor(it))
            self.do("end", it, self.chance(0.8), range_, self.leader(range_))
        elif y < 0.88:
            self.do("tell", self.recent(len(self.house.txns)))
        elif y < 0.93:
            it = self.anchored()
            range_ = self.owner(self.anchor(it))
            self.do("push", self.node(), it, range_, self.leader(range_))
        else:
            self.resolve_one()
        if self.chance(0.6):
            self.do("settle", 2)

    def resolve_one(self):
        it = self.anchored()
        node = self.node()
        key = self.key()
        if 0 <= it < len(self.house.txns) and not self.wild:
            transaction = self.house.txns[it]
            node = self.pick(list(transaction.known) or [node])
            key = self.pick(list(transaction.wrote) or [key])
        range_ = self.owner(key)
        self.do("resolve", node, it, key, range_, self.leader(range_))

    def administer(self):
        y = self.random.random()
        range_ = self.range()
        to = self.leader(range_)
        if y < 0.1:
            self.do("readAsOf", self.node(), self.moment(), self.key(), range_, to)
        elif y < 0.4:
            kind = self.pick([LOOK, LOOK, CLOSE, SWEEP] if not self.wild else [LOOK, 3, 17])
            moment = self.moment()
            if range_ in self.house.ranges and self.chance(0.5):
                moment = self.house.ranges[range_]["state"]["closed"]
            self.do("asOf", self.node(), kind, moment, self.key(), range_, self.node() if self.chance(0.3) else to)
        elif y < 0.5:
            self.part()
        elif y < 0.65:
            self.join()
        elif y < 0.85:
            self.do("change", self.node(), self.chance(0.5), self.node(), range_, to)
        elif y < 0.93:
            open_ = [ask.no for ask in self.house.asks if self.house.pending(ask)]
            self.do("again", self.pick(open_) if open_ and not self.wild else self.recent(len(self.house.asks)), to)
        else:
            self.do("compact", self.node(), range_)
        if self.chance(0.6):
            self.do("settle", self.draw(1, 3))

    def part(self):
        range_ = self.range()
        self.do("split", self.node(), self.draw(0, 32) if self.wild else self.draw(1, 31), range_, self.leader(range_))

    def join(self):
        house = self.house
        freezes = [ask for ask in house.asks if ask.cmd["kind"] == FREEZE]
        states = {r: house.ranges[r]["state"] for r in house.ranges if house.ranges[r]["state"]["frozen"] is None}
        pairs = [(a, b) for a in states for b in states if a != b and states[a]["behind"] == states[b]["first"]]
        if self.wild:
            self.do("settleJoin", self.node(), self.pick([6, 7, 8, 9, 10]), self.draw(-1, len(house.asks)), self.node())
        elif pairs and self.chance(0.4):
            into, from_ = self.pick(pairs)
            self.do("freeze", self.up(), into, from_, self.leader(from_))
        elif freezes:
            freeze = self.pick(freezes[-3:])
            kind = self.pick([JOIN, JOIN, REFUSE, THAW])
            range_ = freeze.r if kind == THAW else freeze.cmd["into"]
            self.do("settleJoin", self.up(), kind, freeze.no, self.leader(range_))
        else:
            self.do("freeze", self.node(), self.range(), self.range(), self.node())

    def work(self):
        many = len(self.house.programs)
        program = self.draw(-1, many) if self.wild else self.draw(0, max(0, many - 1))
        a = self.pick([self.key(), self.draw(0, 31), self.draw(-3, 40)])
        b = self.pick([self.key(), self.draw(0, 32), self.draw(0, 10)])
        if self.chance(0.3):
            self.do("trial", program, a, b)
        if len(self.house.jobs) < 24 or self.chance(0.1):
            self.do("run", self.node(), program, a, b)
        if self.chance(0.5):
            self.do("settle", self.draw(1, 20))

    def hurt(self):
        down = [node.no for node in self.house.nodes if not node.up]
        y = self.random.random()
        if down and y < 0.6:
            self.do("start", self.pick(down))
        elif y < 0.8:
            self.do("stop", self.node(), self.chance(0.35))
        elif y < 0.9:
            self.do("setClock", self.node(), 4 if self.wild else self.draw(-3, 3))
        elif y < 0.95:
            self.do("setKeeper", self.node(), self.chance(0.5))
        else:
            self.do("start", self.node())

    def flood(self):
        for _ in range(5):
            key = self.key()
            range_ = self.owner(key)
            if self.chance(0.5):
                self.do("readAsOf", self.node(), 800 * self.house.time, key, range_, self.leader(range_))
            else:
                self.do("begin", self.node())
                self.do("write", len(self.house.txns) - 1, key, self.draw(0, 9), range_, self.leader(range_))

    # texts

    def write_text(self):
        y = self.random.random()
        if y < 0.3:
            self.do("piece", self.draw(-1 if self.wild else 0, 5))
        elif y < 0.5:
            self.do("load")
        elif y < 0.6:
            self.do("clearText")
        else:
            self.type_bytes(bytes(self.pick(b"txgehasput delif{}();,=<>+-*/%0129\n~") for _ in range(self.draw(0, 48))))

    def type_bytes(self, text):
        for i in range(0, len(text), 48):
            part = text[i : i + 48]
            self.do("type", *struct.unpack(">6q", part + bytes(48 - len(part))))

    def variable(self):
        return self.pick("abcdefkv")

    def expression(self, deep):
        y = self.random.random()
        if deep <= 0 or y < 0.35:
            return self.pick(
                [self.variable(), self.variable(), self.pick(["0", "1", "2", "5", "31", "32", "100", "999999", "0007"])]
            )
        if y < 0.45:
            return "-" + self.expression(deep - 1)
        if y < 0.6:
            return "(" + self.expression(deep - 1) + ")"
        sign = self.pick("+-*/%+-*<>=") if deep > 1 else self.pick("+-*/%")
        return self.expression(deep - 1) + self.pick([" ", "", "\n"]) + sign + " " + self.expression(deep - 1)

    def block(self, deep, in_scan):
        return "{" + " ".join(self.statement(deep - 1, in_scan) for _ in range(self.draw(0, 3))) + "}"

    def statement(self, deep, in_scan):
        y = self.random.random()
        if y < 0.25 or deep <= 0:
            return "%s = %s;" % (self.variable(), self.expression(2))
        if y < 0.4:
            return "%s %s %s;" % (self.pick(["get", "get", "has"]), self.variable(), self.expression(1))
        if y < 0.5:
            return "put %s, %s;" % (self.expression(1), self.expression(2))
        if y < 0.55:
            return "del %s;" % self.expression(1)
        if y < 0.68 and (not in_scan or self.chance(0.05)):
            return "scan %s %s %s, %s %s" % (
                self.variable(),
                self.variable(),
                self.expression(1),
                self.expression(1),
                self.block(deep, True),
            )
        if y < 0.82:
            other = " else " + self.block(deep, in_scan) if self.chance(0.5) else ""
            return "if %s %s%s" % (self.expression(2), self.block(deep, in_scan), other)
        if y < 0.92:
            return "while %s %s" % (self.expression(1), self.block(deep, in_scan))
        return "give %s;" % self.expression(2) if y < 0.97 else "fail;"

    def program(self):
        if self.chance(0.25):
            heads = "".join(
                self.pick(["{ if ", "{ while "]) + self.pick(["1", "(1)", "-1", "((1))"])
                for _ in range(self.draw(3, 8))
            )
            return (
                "tx deep "
                + heads
                + "{" * self.draw(0, 1)
                + " a = "
                + "".join(self.pick("(-(- ") for _ in range(self.draw(0, 14)))
                + "1"
            )
        name = "".join(self.pick("abcxyz") for _ in range(self.draw(2, 8)))
        return "tx " + name + " " + self.block(self.pick([2, 3, 4]), False)

    def write_program(self):
        text = bytearray(" ".join(self.program() for _ in range(self.pick([1, 1, 2]))).encode())
        if self.chance(0.3):
            place = self.draw(0, len(text) - 1)
            text[place : place + self.draw(0, 1)] = bytes([self.pick(b"{}();,=<>+-*/%09 azA\xc8")])
        if len(text) > 400:
            return
        self.type_bytes(bytes(text))
        self.note("errorKind")
        self.note("errorPlace")
        if self.house.errorKind() != 0 and self.chance(0.9):
            self.do("clearText")
            return
        self.do("load")
        many = len(self.house.programs)
        for _ in range(2):
            self.do("trial", self.draw(0, many), self.draw(-2, 40), self.draw(-2, 40))
            self.note("trialAt", 0)
            self.note("trialAt", 1)
        if many and len(self.house.jobs) < 24:
            self.do("run", self.node(), self.draw(0, many - 1), self.draw(-1, 33), self.draw(-1, 33))
            self.do("settle", self.draw(1, 15))


def main():
    first, behind, calls = (int(word) for word in sys.argv[1:4])
    questions = int(sys.argv[4]) if len(sys.argv) > 4 else 2
    for seed in range(first, behind):
        recorder = Recorder(seed, calls, questions)
        recorder.record()
        print("\n".join(recorder.lines))


if __name__ == "__main__":
    main()
