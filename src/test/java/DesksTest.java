/** Promises 14 to 22: desks, objects, failures, references. */
public final class DesksTest {
    private static final Check CHECK = new Check();

    public static void main(String[] args) {
        desks();
        objects();
        objectOrder();
        failures();
        beside();
        sizesOfAll();
        knows();
        references();
        told();
        CHECK.end();
    }

    private static void desks() {
        CHECK.part("desk");
        RemoteDesks x = new RemoteDesks();
        for (int i = 0; i < 8; i++) {
            CHECK.due("desk", x.desk(), i);
            CHECK.due("age", x.audit(i, 3), 0);
        }
        CHECK.due("desk 8", x.desk(), Check.FULL);
        CHECK.due("count", x.count(3), 8);
    }

    private static void objects() {
        CHECK.part("object");
        RemoteDesks x = Make.withDesks(2);
        CHECK.due("no desk", x.object(2, 0, 0, 0, 0), Check.UNKNOWN);
        CHECK.due("desk -1", x.object(-1, 0, 0, 0, 0), Check.UNKNOWN);
        CHECK.due("no service", x.object(0, 3, 0, 0, 0), Check.UNKNOWN);
        CHECK.due("service -1", x.object(0, -1, 0, 0, 0), Check.UNKNOWN);
        CHECK.due("deed -1", x.object(0, 0, -1, 0, 0), Check.OUTSIDE);
        CHECK.due("deed 6", x.object(0, 0, 6, 0, 0), Check.OUTSIDE);
        CHECK.due("no failure", x.object(0, 0, Make.FAIL, 0, 0), Check.UNKNOWN);
        x.failure(0, 1, -1);
        CHECK.due("failure -1", x.object(0, 0, Make.FAIL, -1, 0), Check.UNKNOWN);
        CHECK.due("failure 1", x.object(0, 0, Make.FAIL, 1, 0), Check.UNKNOWN);
        CHECK.due("a failing one", x.object(0, 0, Make.FAIL, 0, -9), 0);
        CHECK.due("relay to 2", x.object(0, 0, Make.RELAY, 2, 0), Check.UNKNOWN);
        CHECK.due("relay to -1", x.object(0, 0, Make.RELAY, -1, 0), Check.UNKNOWN);
        CHECK.due("relay to itself", x.object(1, 1, Make.RELAY, 1, 7), 1);
        CHECK.due("relay m -1", x.object(1, 1, Make.RELAY, 1, -1), Check.OUTSIDE);
        CHECK.due("relay m 8", x.object(1, 1, Make.RELAY, 1, 8), Check.OUTSIDE);
        CHECK.due("relay to another", x.object(1, 2, Make.RELAY, 0, 0), 2);
        CHECK.due("with is not looked at", x.object(0, 0, Make.ECHO, -77, 99), 3);
        CHECK.due("with is not looked at", x.object(0, 0, Make.COUNT, 99, -77), 4);
        CHECK.due("with is not looked at", x.object(0, 0, Make.KEEP, 99, -77), 5);
        CHECK.due("with is not looked at", x.object(0, 0, Make.RAISE, 99, -77), 6);
        CHECK.due("count", x.count(4), 7);
    }

    private static void objectOrder() {
        CHECK.part("order of object()'s refusals");
        RemoteDesks x = Make.withDesks(1);
        CHECK.due("service and deed", x.object(0, 9, 9, 0, 0), Check.UNKNOWN);
        CHECK.due("with and m", x.object(0, 0, Make.RELAY, 5, 9), Check.UNKNOWN);
        for (int i = 0; i < 24; i++) {
            CHECK.due("object", x.object(0, i % 3, 0, 0, 0), i);
        }
        CHECK.due("object 24", x.object(0, 0, 0, 0, 0), Check.FULL);
        CHECK.due("unknown first", x.object(1, 0, 0, 0, 0), Check.UNKNOWN);
        CHECK.due("outside first", x.object(0, 0, 6, 0, 0), Check.OUTSIDE);
        CHECK.due("m first", x.object(0, 0, Make.RELAY, 0, 8), Check.OUTSIDE);
        CHECK.due("count", x.count(4), 24);
    }

    private static void failures() {
        CHECK.part("failure");
        RemoteDesks x = Make.withDesks(0);
        CHECK.due("kind -1", x.failure(-1, 0, -1), Check.UNKNOWN);
        CHECK.due("kind 5", x.failure(5, 0, -1), Check.UNKNOWN);
        CHECK.due("cause 0", x.failure(0, 0, 0), Check.UNKNOWN);
        CHECK.due("cause -2", x.failure(0, 0, -2), Check.UNKNOWN);
        CHECK.due("note -1", x.failure(0, -1, -1), Check.OUTSIDE);
        CHECK.due("note 1000", x.failure(0, 1000, -1), Check.OUTSIDE);
        CHECK.due("unknown first", x.failure(5, 1000, -1), Check.UNKNOWN);
        CHECK.due("unknown first", x.failure(0, 1000, 3), Check.UNKNOWN);
        CHECK.due("failure", x.failure(4, 999, -1), 0);
        for (int i = 1; i < 12; i++) {
            CHECK.due("failure of size " + (i + 1), x.failure(0, 0, i - 1), i);
        }
        CHECK.due("of size 13", x.failure(0, 0, 11), Check.FULL);
        CHECK.due("outside ahead of full", x.failure(0, 1000, 11), Check.OUTSIDE);
        for (int i = 12; i < 16; i++) {
            CHECK.due("failure", x.failure(0, 0, -1), i);
        }
        CHECK.due("failure 16", x.failure(0, 0, -1), Check.FULL);
        CHECK.due("count", x.count(6), 16);
    }

    private static void beside() {
        CHECK.part("beside");
        RemoteDesks x = Make.withDesks(1);
        x.failure(1, 10, -1);
        x.failure(2, 11, -1);
        x.failure(3, 12, 0);
        CHECK.due("f 3", x.beside(3, 0), Check.UNKNOWN);
        CHECK.due("f -1", x.beside(-1, 0), Check.UNKNOWN);
        CHECK.due("g -1", x.beside(2, -1), Check.UNKNOWN);
        CHECK.due("g 3", x.beside(2, 3), Check.UNKNOWN);
        CHECK.due("g is f", x.beside(2, 2), Check.NOT);
        CHECK.due("g behind f", x.beside(0, 1), Check.NOT);
        CHECK.due("first", x.beside(2, 1), 1);
        CHECK.due("second", x.beside(2, 0), 2);
        CHECK.due("third", x.beside(2, 0), Check.FULL);
        CHECK.due("not ahead of full", x.beside(2, 2), Check.NOT);
        x.object(0, 0, Make.FAIL, 2, 0);
        x.call(0, 0, 7);
        CHECK.due("state", x.state(0), 2);
        int[][] due = {{3, 12, 0, 1, 2}, {1, 10, 0, 0, 0}, {2, 11, 0, 0, 0}, {1, 10, 0, 0, 0}};
        CHECK.due("size", x.tree(0, -1, 0), 4);
        for (int i = 0; i < due.length; i++) {
            for (int what = 0; what < 5; what++) {
                CHECK.due("tree(0, " + i + ", " + what + ")", x.tree(0, i, what), due[i][what]);
            }
        }
    }

    private static void sizesOfAll() {
        CHECK.part("sizes of those that have it");
        RemoteDesks x = Make.withDesks(1);
        x.failure(0, 0, -1);
        x.failure(0, 1, 0);
        x.failure(0, 2, 1);
        x.failure(0, 3, 2);
        CHECK.due("failure of size 5", x.failure(0, 4, 3), 4);
        CHECK.due("size 9", x.beside(4, 3), 1);
        CHECK.due("size 10", x.beside(4, 0), 2);
        // 4 has 3 twice: one more in 3 makes it 12, one more in 2 would make it 14
        CHECK.due("size 12", x.beside(3, 0), 1);
        CHECK.due("size 14", x.beside(2, 0), Check.FULL);
        CHECK.due("it is not there", x.beside(3, 0), Check.FULL);
        x.object(0, 0, Make.FAIL, 4, 0);
        x.call(0, 0, 7);
        CHECK.due("size", x.tree(0, -1, 0), 12);
        CHECK.due("3 has one", x.tree(0, 1, 4), 1);
        CHECK.due("2 has none", x.tree(0, 2, 4), 0);
        CHECK.due("a failure with it is too great", x.failure(0, 5, 4), Check.FULL);
    }

    private static void knows() {
        CHECK.part("knows");
        RemoteDesks x = new RemoteDesks();
        x.desk();
        CHECK.due("kind 1 without a book", x.knows(0, 1, true), Check.UNKNOWN);
        CHECK.due("kind 0", x.knows(0, 0, true), Check.NOT);
        Make.describe(x, Make.BOOK);
        CHECK.due("desk 1", x.knows(1, 0, true), Check.UNKNOWN);
        CHECK.due("desk -1", x.knows(-1, 1, true), Check.UNKNOWN);
        CHECK.due("kind 5", x.knows(0, 5, true), Check.UNKNOWN);
        CHECK.due("kind -1", x.knows(0, -1, true), Check.UNKNOWN);
        x.desk();
        for (int kind = 1; kind <= 4; kind++) {
            CHECK.due("at first", x.knows(0, kind, false), 1);
            CHECK.due("then", x.knows(0, kind, false), 0);
            CHECK.due("then", x.knows(0, kind, true), 0);
            CHECK.due("then", x.knows(0, kind, true), 1);
        }
        x.knows(0, 2, false);
        CHECK.due("another desk", x.knows(1, 2, true), 1);
        CHECK.due("another kind", x.knows(0, 3, true), 1);
    }

    private static void references() {
        CHECK.part("give, release, reference");
        RemoteDesks x = Make.withDesks(3);
        x.object(0, 0, 0, 0, 0);
        x.object(1, 0, 0, 0, 0);
        CHECK.due("give, desk 3", x.give(3, 0), Check.UNKNOWN);
        CHECK.due("give, object 2", x.give(0, 2), Check.UNKNOWN);
        CHECK.due("give, object -1", x.give(0, -1), Check.UNKNOWN);
        CHECK.due("give to the host", x.give(0, 0), Check.NOT);
        CHECK.due("release, desk -1", x.release(-1, 0), Check.UNKNOWN);
        CHECK.due("release, object 2", x.release(0, 2), Check.UNKNOWN);
        CHECK.due("release at the host", x.release(1, 1), Check.NOT);
        CHECK.due("release of none", x.release(1, 0), 0);
        CHECK.due("reference, desk 3", x.reference(3, 0), Check.UNKNOWN);
        CHECK.due("reference, object 2", x.reference(0, 2), Check.UNKNOWN);
        CHECK.due("reference of the host", x.reference(0, 0), Check.NONE);
        CHECK.due("reference of none", x.reference(1, 0), Check.NONE);
        CHECK.due("give", x.give(1, 0), 0);
        CHECK.due("reference", x.reference(1, 0), 0);
        x.restart(0);
        x.restart(0);
        x.restart(1);
        CHECK.due("it knows the age it was given with", x.reference(1, 0), 0);
        CHECK.due("give to another", x.give(2, 0), 2);
        CHECK.due("reference of another", x.reference(2, 0), 2);
        CHECK.due("the first", x.reference(1, 0), 0);
        CHECK.due("give again", x.give(1, 0), 2);
        CHECK.due("reference", x.reference(1, 0), 2);
        CHECK.due("holders", x.told(0, 1), 2);
        CHECK.due("release", x.release(1, 0), 1);
        CHECK.due("release again", x.release(1, 0), 0);
        CHECK.due("reference", x.reference(1, 0), Check.NONE);
        CHECK.due("holders", x.told(0, 1), 1);
        CHECK.due("holders of 1", x.told(1, 1), 0);
        CHECK.due("age of the host of 1", x.give(0, 1), 1);
    }

    private static void told() {
        CHECK.part("told");
        RemoteDesks x = Make.withDesks(3);
        x.object(1, 0, Make.COUNT, 0, 0);
        x.object(2, 1, Make.KEEP, 0, 0);
        x.object(2, 2, Make.ECHO, 0, 0);
        CHECK.due("object 3", x.told(3, 0), Check.UNKNOWN);
        CHECK.due("object -1", x.told(-1, 9), Check.UNKNOWN);
        CHECK.due("what -1", x.told(0, -1), Check.OUTSIDE);
        CHECK.due("what 7", x.told(0, 7), Check.OUTSIDE);
        int[][] due = {{1, 0, 0, 0, 0, -1, 0}, {2, 0, 0, 0, 0, -1, 1}, {2, 0, 0, 0, 0, -1, 2}};
        for (int o = 0; o < 3; o++) {
            for (int what = 0; what < 7; what++) {
                CHECK.due("told(" + o + ", " + what + ")", x.told(o, what), due[o][what]);
            }
        }
        x.hand(0, -1);
        x.hand(1, 0x1234567890abcdefL);
        x.hand(3, 1);
        x.call(1, 0, 1);
        CHECK.due("begun", x.told(0, 2), 1);
        CHECK.due("low", x.told(0, 3), 0x90abcdef);
        CHECK.due("high", x.told(0, 4), 0x12345678);
        x.hand(20, 0);
        x.hand(21, 1);
        x.call(2, 1, 1);
        CHECK.due("kept", x.told(1, 5), 1);
    }
}
