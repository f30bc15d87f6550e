"""First errors of texts by the document's grammar alone: its productions are tried all together (as Earley does), so a
token can stand where some text goes on with it. No parser of the class or of the second model is used.

    python3 tools/grammar.py SEED MANY > texts.txt

A line is the text in hex, the names of the programs that are in the house, the kind of the first error, and its place.
"""

import random
import sys

from record import Recorder

QUOTED = {"tx", "get", "has", "put", "del", "scan", "if", "else", "while", "give", "fail"}
SIGNS = "{}();,=<>+-*/%"
DEEPEST = 12
HOUSES = [[], [], ["aa", "bb"], ["ab", "ac", "ad", "ae", "af"], ["ab", "ac", "ad", "ae", "af", "ag"]]
SCRAPS = b" scan |else |tx ab {|999999 |1000000|0999999| if |----|((((|{ |}|get | fail;| a ".split(b"|")


def statements(kind, block):
    return {
        kind + "s": ["", kind + " " + kind + "s"],
        kind: [
            "VAR = exp ;",
            "get VAR exp ;",
            "has VAR exp ;",
            "put exp , exp ;",
            "del exp ;",
            "if exp " + block,
            "if exp %s else %s" % (block, block),
            "while exp " + block,
            "give exp ;",
            "fail ;",
        ],
        block: ["{ " + kind + "s }"],
    }


# In the block of a scan all statements can stand but another scan.
GRAMMAR = {
    "text": ["", "program text"],
    "program": ["tx NAME block"],
    "exp": ["sum", "sum < sum", "sum > sum", "sum = sum"],
    "sum": ["term", "sum + term", "sum - term"],
    "term": ["factor", "term * factor", "term / factor", "term % factor"],
    "factor": ["NUMBER", "VAR", "- factor", "( exp )"],
    **statements("statement", "block"),
    **statements("inner", "innerblock"),
}
GRAMMAR["statement"].append("scan VAR VAR exp , exp innerblock")
GRAMMAR = {name: [tuple(way.split()) for way in ways] for name, ways in GRAMMAR.items()}


def complete(items, place, rows):
    """Adds to a row of items (a name, a way, a place in it, the row where it began) all that follow from them."""
    row = set(items)
    left = list(items)

    def add(item):
        if item not in row:
            row.add(item)
            left.append(item)

    while left:
        name, way, dot, begun = left.pop()
        if dot == len(way):
            for other, its, at, first in list(row if begun == place else rows[begun]):
                if at < len(its) and its[at] == name:
                    add((other, its, at + 1, first))
        elif way[dot] in GRAMMAR:
            for its in GRAMMAR[way[dot]]:
                add((way[dot], its, 0, place))
                if not its:
                    add((name, way, dot + 1, begun))
    return row


def tokens(text):
    """The tokens: what each one can be in the grammar, its bytes, its place."""
    i = 0
    while i < len(text):
        behind = i + 1
        first = chr(text[i])
        if first in " \n":
            i += 1
            continue
        kind = str.islower if "a" <= first <= "z" else str.isdigit if "0" <= first <= "9" else None
        while kind and behind < len(text) and text[behind] < 128 and kind(chr(text[behind])):
            behind += 1
        word = text[i:behind].decode("latin-1")
        if kind is str.islower:
            names = {word} if word in QUOTED else {1: {"VAR"}}.get(len(word), {"NAME"} if len(word) <= 8 else set())
        elif kind is str.isdigit:
            names = {"NUMBER"} if int(word) <= 999999 else None
        else:
            names = {word} if first in SIGNS else None
        yield names, word, i
        i = behind


def first_error(text, house):
    names = list(house)
    rows = [complete({("all", ("text",), 0, 0)}, 0, [])]
    open_ = []
    last = None
    for can_be, word, place in tokens(text):
        if can_be is None:
            return 1, place
        row = [item for item in rows[-1] if item[2] < len(item[1]) and item[1][item[2]] in can_be]
        if not row:
            return 2, place
        token = row[0][1][row[0][2]]
        begins = [(name, way, dot) for name, way, dot, _ in row]
        is_minus = ("factor", ("-", "factor"), 0) in begins
        if (token in ("{", "(") or is_minus) and len(open_) >= DEEPEST:
            return 3, place
        is_second = any(way[:1] == ("scan",) and dot == 2 for _, way, dot in begins)
        if token == "NAME" and word in names or is_second and word == last:
            return 4, place
        if token == "tx" and len(names) >= 6:
            return 5, place
        if token == "NAME":
            names.append(word)
        note_depth(open_, token, is_minus, ("factor", ("VAR",), 0) in begins)
        moved = {(name, way, dot + 1, begun) for name, way, dot, begun in row}
        rows.append(complete(moved, len(rows), rows))
        last = word
    return (0, -1) if ("all", ("text",), 1, 0) in rows[-1] else (2, len(text))


def note_depth(open_, token, is_minus, is_factor):
    if token in ("{", "(") or is_minus:
        open_.append(token)
    if token in ("}", ")"):
        open_.pop()
    if token in ("NUMBER", ")") or is_factor:
        while open_ and open_[-1] == "-":
            open_.pop()


def main():
    seed, many = int(sys.argv[1]), int(sys.argv[2])
    draws = random.Random(seed)
    recorder = Recorder(seed, 0, 0)
    while many > 0:
        text = bytearray(" ".join(recorder.program() for _ in range(draws.choice([1, 1, 2, 3]))).encode())
        for _ in range(draws.choice([0, 1, 1, 1, 2, 3])):
            at = draws.randrange(len(text) + 1)
            text[at : at + draws.choice([0, 0, 1, 2, 5])] = draws.choice([b"", b"~", b"\xc8", b"-", b"a", b"9"] + SCRAPS)
        house = draws.choice(HOUSES)
        if 0 < len(text) <= 300:
            print(text.hex(), ",".join(house) or "-", *first_error(bytes(text), house))
            many -= 1


if __name__ == "__main__":
    main()
