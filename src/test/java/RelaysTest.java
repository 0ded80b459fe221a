/** Relays to other desks (part 7). */
public final class RelaysTest {
    private static final Check CHECK = new Check();
    private static final int INT = 0;
    private static final int ADD = 0, PASS = 5, NIL = 7;
    /** add() of the service other. */
    private static final int OTHER_ADD = 5;

    public static void main(String[] args) {
        answered();
        failed();
        valuesGoOn();
        noReference();
        otherSorts();
        sixtyCalls();
        tooGreat();
        orderOfNotes();
        givenUp();
        givenUpLocally();
        aged();
        restartOfRelay();
        restartOfLocalCaller();
        lateWithin();
        handIsNotTouched();
        CHECK.end();
    }

    /** Desk 2 hosts object 0; desk 1 hosts object 1, a relay to it; desk 0 holds the relay. */
    private static RemoteDesks threeDesks(int deed, int m) {
        RemoteDesks x = Make.withDesks(3);
        x.failure(2, 7, -1);
        x.failure(3, 8, 0);
        x.object(2, 0, deed, 1, 0);
        x.object(1, 0, Make.RELAY, 0, m);
        x.give(1, 0);
        x.give(0, 1);
        return x;
    }

    private static void tree(RemoteDesks x, int call, int note, int desk) {
        CHECK.due("state", x.state(call), 2);
        CHECK.due("size", x.tree(call, -1, 0), 1);
        int[] due = {0, note, desk, 0, 0};
        for (int what = 0; what < 5; what++) {
            CHECK.due("tree(" + call + ", 0, " + what + ")", x.tree(call, 0, what), due[what]);
        }
    }

    private static int callAdd(RemoteDesks x, int a, int b) {
        x.hand(INT, a);
        x.hand(INT, b);
        return x.call(0, 1, ADD);
    }

    private static void answered() {
        CHECK.part("answered");
        RemoteDesks x = threeDesks(Make.COUNT, ADD);
        callAdd(x, 3, 4);
        CHECK.due("slots", x.through(0), 1);
        CHECK.due("the request within: from 1 to 2", x.slot(0, 0), 16 + 2);
        CHECK.due("its number", x.slot(0, 2), 1);
        int[] about = {1, 0, ADD, 0, 1, 0};
        for (int what = 0; what < about.length; what++) {
            CHECK.due("about(1, " + what + ")", x.about(1, what), about[what]);
        }
        CHECK.due("begun", x.about(0, 5), 1);
        CHECK.due("no answer yet", x.audit(1, 2), 0);
        CHECK.due("the relay's deed is begun", x.told(1, 2), 1);
        x.tick(4);
        // within, outer again, within again
        CHECK.due("slots", x.count(8), 3);
        CHECK.due("a request to one that waits", x.through(1), 2);
        CHECK.due("no deed more", x.told(1, 2), 1);
        CHECK.due("no call more", x.count(7), 2);
        x.lose(1);
        x.through(0);
        CHECK.due("deed", x.told(0, 3), 7);
        CHECK.due("through", x.through(0), 2);
        CHECK.due("thanks first", x.slot(0, 1), 2);
        CHECK.due("then the answer", x.slot(1, 1), 1);
        CHECK.due("of the outer call", x.slot(1, 2), 0);
        CHECK.due("state within", x.state(1), 1);
        CHECK.due("value within", x.value(1), 7);
        CHECK.due("state", x.state(0), 0);
        CHECK.due("shelf", x.audit(1, 2), 1);
        Make.deliverAll(x);
        CHECK.due("state", x.state(0), 1);
        CHECK.due("value", x.value(0), 7);
        CHECK.due("shelf", x.audit(1, 2), 0);
        CHECK.due("shelf", x.audit(2, 2), 0);
        CHECK.due("it stays told", x.about(1, 3), 0);
    }

    private static void failed() {
        CHECK.part("failed");
        RemoteDesks x = threeDesks(Make.FAIL, NIL);
        x.knows(1, 3, false);
        x.knows(0, 2, false);
        x.call(0, 1, NIL);
        Make.deliverAll(x);
        CHECK.due("state", x.state(0), 2);
        CHECK.due("state within", x.state(1), 2);
        int[][] within = {{2, 8, 2, 1, 0}, {2, 7, 2, 0, 0}};
        int[][] outer = {{1, 8, 2, 1, 0}, {1, 7, 2, 0, 0}};
        for (int i = 0; i < 2; i++) {
            for (int what = 0; what < 5; what++) {
                CHECK.due("tree(1, " + i + ", " + what + ")", x.tree(1, i, what), within[i][what]);
                CHECK.due("tree(0, " + i + ", " + what + ")", x.tree(0, i, what), outer[i][what]);
            }
        }
    }

    private static void valuesGoOn() {
        CHECK.part("nodes and references through a relay");
        RemoteDesks x = threeDesks(Make.RAISE, PASS);
        x.node(0);
        x.set(0, 0, 5);
        x.hand(Make.PAIR, 0);
        x.call(0, 1, PASS);
        Make.deliverAll(x);
        CHECK.due("state", x.state(0), 1);
        CHECK.due("nodes", x.count(5), 5);
        int[] due = {5, 5, 6, 6, 6};
        for (int i = 0; i < due.length; i++) {
            CHECK.due("field(" + i + ", 0)", x.field(i, 0), due[i]);
        }
        CHECK.due("value within", x.value(1), 3);
        CHECK.due("value", x.value(0), 4);
        RemoteDesks y = threeDesks(Make.ECHO, 6);
        y.object(0, 0, Make.ECHO, 0, 0);
        y.hand(Make.PLAIN, 2);
        y.call(0, 1, 6);
        Make.deliverAll(y);
        CHECK.due("given to the relay's desk", y.reference(1, 2), 0);
        CHECK.due("given to the last", y.reference(2, 2), 0);
        CHECK.due("not to the host", y.reference(0, 2), Check.NONE);
        CHECK.due("value", y.value(0), 2);
    }

    private static void noReference() {
        CHECK.part("no reference");
        RemoteDesks x = threeDesks(Make.COUNT, ADD);
        x.release(1, 0);
        callAdd(x, 1, 2);
        x.through(0);
        CHECK.due("an answer at once", x.slot(0, 1), 1);
        Make.deliverAll(x);
        tree(x, 0, 904, 1);
        CHECK.due("no call within", x.count(7), 1);
        CHECK.due("deed of the relay", x.told(1, 2), 1);
        CHECK.due("deed", x.told(0, 2), 0);
    }

    private static void otherSorts() {
        CHECK.part("other sorts");
        RemoteDesks x = threeDesks(Make.COUNT, NIL);
        callAdd(x, 1, 2);
        Make.deliverAll(x);
        tree(x, 0, 905, 1);
        // the same arguments, another answer: plain.nil() is an int, other.nil() a double
        RemoteDesks y = Make.withDesks(2);
        y.object(1, 1, Make.ECHO, 0, 0);
        y.object(1, 0, Make.RELAY, 0, 6);
        y.object(1, 0, Make.RELAY, 0, OTHER_ADD);
        y.object(1, 2, Make.ECHO, 0, 0);
        y.object(1, 0, Make.RELAY, 3, 7);
        y.give(0, 1);
        y.call(0, 1, NIL);
        Make.deliverAll(y);
        tree(y, 0, 905, 1);
        y.hand(INT, 6);
        y.hand(INT, 7);
        y.call(1, 2, ADD);
        CHECK.due("another service's method that fits", y.value(1), 6);
        y.hand(INT, 6);
        y.hand(INT, 7);
        y.call(1, 4, ADD);
        tree(y, 3, 905, 1);
        CHECK.due("a method that there is not", y.count(7), 4);
    }

    private static void sixtyCalls() {
        CHECK.part("60 calls");
        RemoteDesks x = threeDesks(Make.COUNT, NIL);
        for (int i = 0; i < 58; i++) {
            CHECK.due("call", x.call(2, 0, NIL), i);
        }
        CHECK.due("call 58", x.call(0, 1, NIL), 58);
        CHECK.due("call 59", x.call(0, 1, NIL), 59);
        CHECK.due("call 60", x.call(0, 1, NIL), Check.FULL);
        Make.deliverAll(x);
        tree(x, 58, 906, 1);
        tree(x, 59, 906, 1);
        CHECK.due("calls", x.count(7), 60);
    }

    private static void tooGreat() {
        CHECK.part("a request too great");
        RemoteDesks x = threeDesks(Make.COUNT, PASS);
        for (int i = 0; i < 13; i++) {
            x.node(0);
            x.set(i, 5, i - 1);
        }
        x.hand(Make.PAIR, 12);
        CHECK.due("call at the host", x.call(1, 1, PASS), 0);
        tree(x, 0, 907, 1);
        CHECK.due("calls", x.count(7), 1);
        CHECK.due("slots", x.count(8), 0);
        x.hand(Make.PAIR, 0);
        CHECK.due("call", x.call(1, 1, PASS), 1);
        CHECK.due("it waits", x.state(1), 0);
        Make.deliverAll(x);
        CHECK.due("state", x.state(1), 1);
        CHECK.due("value", x.value(1), -1);
    }

    private static void orderOfNotes() {
        CHECK.part("the first note that fits");
        RemoteDesks x = threeDesks(Make.COUNT, PASS);
        x.release(1, 0);
        x.call(1, 1, NIL);
        tree(x, 0, 904, 1);
        x.give(1, 0);
        for (int i = 0; i < 13; i++) {
            x.node(0);
            x.set(i, 5, i - 1);
        }
        for (int i = 1; i < 58; i++) {
            x.call(2, 0, NIL);
        }
        x.call(1, 1, NIL);
        tree(x, 58, 905, 1);
        x.hand(Make.PAIR, 12);
        x.call(1, 1, PASS);
        tree(x, 59, 906, 1);
    }

    private static void givenUp() {
        CHECK.part("given up within");
        RemoteDesks x = threeDesks(Make.COUNT, ADD);
        callAdd(x, 1, 2);
        x.through(0);
        x.lose(0);
        for (int i = 0; i < 8; i++) {
            x.tick(4);
            CHECK.due("slots", x.count(8), 2);
            x.lose(0);
            x.lose(0);
        }
        CHECK.due("tick", x.tick(4), 36);
        CHECK.due("outer", x.state(0), 3);
        CHECK.due("within", x.state(1), 3);
        CHECK.due("the relay answers all the same", x.count(8), 1);
        CHECK.due("answer", x.slot(0, 1), 1);
        CHECK.due("with a tree", x.slot(0, 5), 1);
        CHECK.due("note's high byte", x.slot(0, 7), 908 >> 8);
        CHECK.due("note's low byte", x.slot(0, 8), 908 & 255);
        CHECK.due("desk", x.slot(0, 9), 1);
        CHECK.due("shelf", x.audit(1, 2), 1);
        Make.deliverAll(x);
        CHECK.due("outer", x.state(0), 3);
        CHECK.due("shelf", x.audit(1, 2), 0);
    }

    private static void givenUpLocally() {
        CHECK.part("given up within a call at the host");
        RemoteDesks x = threeDesks(Make.COUNT, ADD);
        x.object(1, 0, Make.RELAY, 1, ADD);
        x.tick(5);
        x.hand(INT, 1);
        x.hand(INT, 2);
        CHECK.due("call", x.call(1, 2, ADD), 0);
        CHECK.due("calls", x.count(7), 3);
        CHECK.due("state", x.state(0), 0);
        x.tick(35);
        for (int i = 0; i < 3; i++) {
            CHECK.due("state", x.state(i), 0);
        }
        CHECK.due("only the last is sent", x.about(0, 4) + x.about(1, 4), 0);
        CHECK.due("the last is", x.about(2, 4), 9);
        x.tick(1);
        CHECK.due("within", x.state(2), 3);
        tree(x, 1, 908, 1);
        tree(x, 0, 908, 1);
    }

    private static void aged() {
        CHECK.part("aged within");
        RemoteDesks x = threeDesks(Make.COUNT, ADD);
        x.restart(2);
        callAdd(x, 1, 2);
        Make.deliverAll(x);
        CHECK.due("within", x.state(1), 4);
        tree(x, 0, 909, 1);
    }

    private static void restartOfRelay() {
        CHECK.part("restart of the relay's desk");
        RemoteDesks x = threeDesks(Make.COUNT, ADD);
        callAdd(x, 1, 2);
        x.through(0);
        x.restart(1);
        CHECK.due("within", x.state(1), 5);
        CHECK.due("outer", x.state(0), 0);
        CHECK.due("begun", x.about(0, 5), 0);
        Make.deliverAll(x);
        CHECK.due("its deed was done", x.told(0, 3), 3);
        CHECK.due("within", x.state(1), 5);
        CHECK.due("what waited is gone", x.audit(1, 2), 0);
        CHECK.due("outer", x.state(0), 0);
        x.tick(4);
        Make.deliverAll(x);
        CHECK.due("outer", x.state(0), 4);
        CHECK.due("no call more", x.count(7), 2);
        CHECK.due("its outer stays told", x.about(1, 3), 0);
    }

    private static void restartOfLocalCaller() {
        CHECK.part("restart of the desk that calls its own relay");
        RemoteDesks x = threeDesks(Make.COUNT, ADD);
        x.hand(INT, 1);
        x.hand(INT, 2);
        x.call(1, 1, ADD);
        x.restart(1);
        CHECK.due("outer", x.state(0), 5);
        CHECK.due("within", x.state(1), 5);
        Make.deliverAll(x);
        x.tick(40);
        CHECK.due("outer", x.state(0), 5);
        CHECK.due("within", x.state(1), 5);
        CHECK.due("its deed was done", x.told(0, 3), 3);
    }

    private static void lateWithin() {
        CHECK.part("the caller starts anew while the relay waits");
        RemoteDesks x = threeDesks(Make.COUNT, ADD);
        callAdd(x, 1, 2);
        x.through(0);
        x.restart(0);
        Make.deliverAll(x);
        CHECK.due("outer", x.state(0), 5);
        CHECK.due("within", x.state(1), 1);
        CHECK.due("thanks came", x.audit(1, 2), 0);
        CHECK.due("begun", x.about(0, 5), 1);
    }

    private static void handIsNotTouched() {
        CHECK.part("the hand");
        RemoteDesks x = threeDesks(Make.COUNT, ADD);
        callAdd(x, 1, 2);
        x.hand(INT, 5);
        Make.deliverAll(x);
        CHECK.due("state", x.state(0), 1);
        CHECK.due("the hand is not touched", x.open(), 1);
    }
}
