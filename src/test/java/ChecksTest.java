import java.lang.reflect.Array;
import java.lang.reflect.Field;

/** agrees() and errors() look at the house: what is broken by force, they tell. */
public final class ChecksTest {
    private static int wrong;

    private static void is(String what, boolean got) {
        if (!got) {
            wrong++;
            System.out.println(what + " is not so");
        }
    }

    private static Field field(Object it, String name) throws ReflectiveOperationException {
        Field field = it.getClass().getDeclaredField(name);
        field.setAccessible(true);
        return field;
    }

    private static Object part(Object it, String name) throws ReflectiveOperationException {
        return field(it, name).get(it);
    }

    private static Object row(Object it, String name, int index) throws ReflectiveOperationException {
        return Array.get(part(it, name), index);
    }

    /** A house with a committed transaction, a read as of a moment, a LOOK, a SCAN and a job that is DONE. */
    private static Rangehold house() {
        Rangehold x = new Rangehold();
        x.addNode(0);
        x.addNode(0);
        x.found(3);
        x.settle(20);
        int first = x.begin(0);
        x.write(first, 1, 10, 0, 0);
        x.settle(3);
        x.end(first, true, 0, 0);
        x.settle(3);
        x.resolve(0, first, 1, 0, 0);
        x.settle(3);
        x.asOf(0, Rangehold.CLOSE, x.transactionAt(first, 2), 0, 0, 0);
        x.settle(3);
        x.asOf(0, Rangehold.LOOK, x.transactionAt(first, 2), 1, 0, 0);
        x.settle(3);
        int second = x.begin(0);
        x.scan(second, 0, 32, 0, 0);
        x.settle(3);
        x.read(second, 1, 0, 0);
        x.settle(3);
        x.end(second, true, 0, 0);
        x.pass(9);
        x.tell(first);
        x.piece(4);
        x.load();
        x.run(0, 0, 2, 5);
        x.settle(20);
        is("agrees ahead of all", x.agrees());
        is("no errors ahead of all", x.errors() == 0);
        return x;
    }

    private static void answered(Rangehold x, int ask) {
        x.settle(20);
        is("an answer OK", x.askAt(ask, 3) == Rangehold.OK);
    }

    private static void disagrees(String what, String list, int index, String name, long value) throws ReflectiveOperationException {
        Rangehold x = house();
        Object it = row(x, list, index);
        field(it, name).setLong(it, value);
        is(what, !x.agrees());
    }

    public static void main(String[] args) throws ReflectiveOperationException {
        disagrees("a LOOK that tells another value", "asks", 4, "answerValue", 11);
        disagrees("a READ that tells another value", "asks", 6, "answerValue", 11);
        Rangehold scan = house();
        ((long[]) part(row(scan, "asks", 5), "found"))[1] = 11;
        is("a SCAN that tells another value", !scan.agrees());
        Rangehold job = house();
        Object machine = part(row(job, "jobs", 0), "machine");
        field(machine, "given").setInt(machine, 7);
        is("a job that gave something else", !job.agrees());

        Rangehold told = house();
        Object late = row(told, "transactions", 0);
        field(late, "moment").setLong(late, 800L * 1000);
        is("a pair against the order", told.errors() > 0);
        Rangehold held = house();
        ((int[]) part(part(row(held, "ranges", 0), "state"), "versions"))[0] = 0;
        is("a key that is not held", held.errors() > 0);
        Rangehold fed = house();
        ((int[]) part(part(row(row(fed, "nodes", 1), "copies", 0), "state"), "versions"))[0] = 0;
        is("a feed that lacks a version", fed.errors() > 0);
        Rangehold unlike = house();
        Array.setInt(part(row(row(unlike, "nodes", 1), "copies", 0), "terms"), 1, 9);
        is("an entry that was agreed on otherwise", unlike.errors() > 0);
        Rangehold owned = house();
        answered(owned, owned.split(0, 16, 0, 0));
        Object lower = part(row(owned, "ranges", 0), "state");
        field(lower, "behind").setInt(lower, 17);
        is("a key with two owners", owned.errors() > 0);
        Rangehold left = house();
        Object wrote = Array.get(part(row(left, "transactions", 2), "wrote"), 2);
        field(wrote, "value").setLong(wrote, 99);
        is("a job that left something else", !left.agrees());
        Rangehold first = house();
        ((int[]) part(part(row(row(first, "nodes", 0), "copies", 0), "state"), "versions"))[0] = 0;
        is("a feed of the first node that lacks a version", first.errors() > 0);
        Rangehold last = house();
        Object longest = row(row(last, "nodes", 0), "copies", 0);
        Array.setInt(part(longest, "terms"), 0, 9);
        is("the first entry, agreed on otherwise", last.errors() > 0);
        Rangehold end = house();
        longest = row(row(end, "nodes", 0), "copies", 0);
        Array.setInt(part(longest, "terms"), (Integer) part(longest, "carried") - 1, 9);
        is("the last entry that was carried out, agreed on otherwise", end.errors() > 0);
        Rangehold twice = house();
        Object copy = row(row(twice, "nodes", 1), "copies", 0);
        field(copy, "role").setInt(copy, Rangehold.LEADER);
        is("two LEADERs of one term", twice.errors() > 0);
        System.out.println("ChecksTest: " + wrong + " wrong");
        if (wrong != 0) {
            System.exit(1);
        }
    }
}
