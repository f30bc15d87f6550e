/** All that the questions of a house tell, as a text of lines: two houses with the same text are alike in what they tell. */
final class Snapshot {
    private final Rangehold x;
    private final StringBuilder text = new StringBuilder();

    private interface Question {
        long answer(int what);
    }

    private Snapshot(Rangehold x) {
        this.x = x;
    }

    static String of(Rangehold x) {
        Snapshot it = new Snapshot(x);
        it.tellCounts();
        it.tellAsks();
        it.tellRanges();
        it.tellCopies();
        it.tellPrograms();
        return it.text.toString();
    }

    /** The first line in which two texts differ. */
    static String difference(String before, String after) {
        String[] first = before.split("\n");
        String[] second = after.split("\n");
        for (int i = 0; i < first.length && i < second.length; i++) {
            if (!first[i].equals(second[i])) {
                return first[i] + " to " + second[i];
            }
        }
        return "the number of lines";
    }

    private void tell(String name, int last, Question question) {
        text.append(name);
        for (int what = 0; what <= last; what++) {
            text.append(' ').append(question.answer(what));
        }
        text.append('\n');
    }

    private void tellCounts() {
        tell("count", 18, x::count);
        text.append(x.agrees()).append(x.errors()).append(x.fineShare()).append(x.meanEntries()).append('\n');
        for (int node = 0; node < x.count(1); node++) {
            int it = node;
            tell("node " + node, 4, what -> x.nodeAt(it, what));
        }
        for (int key = 0; key < 32; key++) {
            text.append("key ").append(key).append(' ').append(x.ownerOf(key)).append(' ').append(x.valueAt(key, Long.MAX_VALUE));
            text.append(' ').append(x.heldAt(key)).append('\n');
        }
        for (int message = 0; message < x.count(9); message++) {
            int it = message;
            tell("message " + message, 6, what -> x.messageAt(it, what));
        }
    }

    private void tellAsks() {
        for (int i = 0; i < x.count(4); i++) {
            int it = i;
            tell("transaction " + i, 7, what -> x.transactionAt(it, what));
            for (int j = 0; j < x.transactionAt(i, 4); j++) {
                int operation = j;
                tell("operation " + j, 3, what -> x.operationAt(it, operation, what));
            }
        }
        for (int i = 0; i < x.count(7); i++) {
            int it = i;
            tell("ask " + i, 6, what -> x.askAt(it, what));
            if (x.askAt(i, 0) == Rangehold.SCAN && x.askAt(i, 3) == Rangehold.OK) {
                tell("scan", 1, what -> x.scanAt(it, 0, what));
                for (int j = 0; j < x.scanAt(i, 0, 0); j++) {
                    int index = j;
                    tell("found", 1, what -> x.scanAt(it, index, 2 + what));
                }
            }
        }
        for (int i = 0; i < x.count(15); i++) {
            int it = i;
            tell("job " + i, 8, what -> x.jobAt(it, what));
        }
    }

    private void tellRanges() {
        for (int i = 0; i < 8; i++) {
            int range = i;
            if (Checks.thrownBy(() -> x.rangeAt(range, 0)) != null) {
                continue;
            }
            tell("range " + i, 9, what -> x.rangeAt(range, what));
            for (int j = (int) x.rangeAt(i, 0); j < x.rangeAt(i, 1); j++) {
                int key = j;
                tell("intent " + key, 3, what -> x.intentAt(range, key, what));
                for (int version = 0; Checks.thrownBy(versionOf(range, key, version)) == null; version++) {
                    text.append("version ").append(x.versionAt(range, key, version, false)).append(' ').append(x.versionAt(range, key, version, true)).append('\n');
                }
            }
        }
    }

    private Checks.Call versionOf(int range, int key, int version) {
        return () -> x.versionAt(range, key, version, false);
    }

    private void tellCopies() {
        for (int i = 0; i < x.count(1); i++) {
            for (int j = 0; j < 8; j++) {
                int node = i;
                int range = j;
                if (Checks.thrownBy(() -> x.copyAt(node, range, 0)) == null) {
                    tellCopy(node, range);
                }
            }
        }
    }

    private void tellCopy(int node, int range) {
        tell("copy " + node + " " + range, 7, what -> x.copyAt(node, range, what));
        for (int i = x.copyAt(node, range, 2) + 1; i <= x.copyAt(node, range, 3); i++) {
            int index = i;
            tell("entry " + i, 2, what -> x.entryAt(node, range, index, what));
        }
        if (x.nodeAt(node, 0) == 1) {
            text.append("resolved ").append(x.resolved(node, range)).append('\n');
            tellFeed(node, range, 0);
            tellFeed(node, range, x.rangeAt(range, 9));
        }
    }

    private void tellFeed(int node, int range, long since) {
        if (Checks.thrownBy(() -> x.feedAt(node, range, since, 0, 0)) == null) {
            for (int i = 0; i < x.feedAt(node, range, since, 0, 0); i++) {
                int index = i;
                tell("feed", 2, what -> x.feedAt(node, range, since, index, what + 1));
            }
        }
    }

    private void tellPrograms() {
        text.append("text ").append(x.errorKind()).append(' ').append(x.errorPlace()).append('\n');
        for (int i = 0; i < x.count(17); i++) {
            int program = i;
            for (int j = 0; j < x.codeLength(i); j++) {
                int instruction = j;
                tell("code", 3, what -> x.codeAt(program, instruction, what));
            }
        }
        tell("trial", 33, x::trialAt);
    }
}
