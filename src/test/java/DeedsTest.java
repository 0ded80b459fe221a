/** What the deeds do, by calls to objects that the calling desk hosts (part 4), and promises 23 to 28 for these. */
public final class DeedsTest {
    private static final Check CHECK = new Check();
    private static final int INT = 0, LONG = 1, DOUBLE = 2, BOOLEAN = 3, TEXT = 4;
    /** Methods of the service plain. */
    private static final int ADD = 0, SUM = 1, REAL = 2, IS = 3, SAY = 4, PASS = 5, WHO = 6, NIL = 7;

    public static void main(String[] args) {
        localCall();
        echo();
        count();
        countAsSorts();
        fail();
        keep();
        raise();
        raiseOfManyNodes();
        localRelay();
        relayToItself();
        CHECK.end();
    }

    private static void localCall() {
        CHECK.part("a call without messages");
        RemoteDesks x = Make.withDesks(2);
        x.object(0, 0, Make.ECHO, 0, 0);
        x.hand(INT, 8);
        x.hand(INT, 9);
        CHECK.due("call", x.call(0, 0, ADD), 0);
        CHECK.due("the hand is empty", x.open(), 0);
        CHECK.due("state", x.state(0), 1);
        CHECK.due("value", x.value(0), 8);
        CHECK.due("no slot", x.count(8), 0);
        int[] about = {0, 0, ADD, -1, 0, 0};
        for (int what = 0; what < about.length; what++) {
            CHECK.due("about(0, " + what + ")", x.about(0, what), about[what]);
        }
        CHECK.due("about(0, 6)", x.about(0, 6), Check.OUTSIDE);
        CHECK.due("about(0, -1)", x.about(0, -1), Check.OUTSIDE);
        CHECK.due("about(1, 9)", x.about(1, 9), Check.UNKNOWN);
        CHECK.due("about(-1, 0)", x.about(-1, 0), Check.UNKNOWN);
        CHECK.due("tree(0, -1, 99)", x.tree(0, -1, 99), 0);
        CHECK.due("tree(0, 0, 99)", x.tree(0, 0, 99), Check.UNKNOWN);
        CHECK.due("begun", x.audit(0, 4), 0);
        for (int what = 0; what <= 6; what++) {
            CHECK.due("audit(0, " + what + ")", x.audit(0, what), 0);
        }
        x.tick(100);
        CHECK.due("state", x.state(0), 1);
        x.restart(0);
        CHECK.due("state", x.state(0), 1);
        CHECK.due("value", x.value(0), 8);
        CHECK.due("value(1)", x.value(1), Check.UNKNOWN);
        CHECK.due("value(-1)", x.value(-1), Check.UNKNOWN);
        CHECK.due("state(1)", x.state(1), Check.UNKNOWN);
        CHECK.due("state(-1)", x.state(-1), Check.UNKNOWN);
        CHECK.due("letterOf(1, 0)", x.letterOf(1, 0), Check.UNKNOWN);
        CHECK.due("letterOf(-1, 0)", x.letterOf(-1, 0), Check.UNKNOWN);
        CHECK.due("letterOf(0, 0) of a number", x.letterOf(0, 0), Check.NONE);
        CHECK.due("tree(1, -1, 0)", x.tree(1, -1, 0), Check.UNKNOWN);
    }

    private static void echo() {
        CHECK.part("echo");
        RemoteDesks x = Make.withDesks(1);
        x.object(0, 0, Make.ECHO, 0, 0);
        x.object(0, 1, Make.ECHO, 0, 0);
        x.object(0, 2, Make.ECHO, 0, 0);
        x.node(0);
        x.node(0);
        x.node(1);
        x.hand(INT, 1);
        x.hand(LONG, -2);
        x.hand(BOOLEAN, 1);
        CHECK.due("the long among others", x.value(x.call(0, 0, SUM)), -2);
        x.hand(DOUBLE, 77);
        CHECK.due("double", x.value(x.call(0, 0, REAL)), 77);
        x.hand(BOOLEAN, 1);
        CHECK.due("boolean", x.value(x.call(0, 0, IS)), 1);
        Make.letters(x, "xyz");
        x.hand(TEXT, 0);
        int c = x.call(0, 0, SAY);
        CHECK.due("text", x.value(c), 3);
        CHECK.due("letterOf 0", x.letterOf(c, 0), 'x');
        CHECK.due("letterOf 2", x.letterOf(c, 2), 'z');
        CHECK.due("letterOf 3", x.letterOf(c, 3), Check.NONE);
        CHECK.due("letterOf -1", x.letterOf(c, -1), Check.NONE);
        x.hand(TEXT, -1);
        c = x.call(0, 0, SAY);
        CHECK.due("nothing", x.value(c), -1);
        CHECK.due("letterOf nothing", x.letterOf(c, 0), Check.NONE);
        x.hand(Make.PAIR, 1);
        x.hand(Make.PAIR, 0);
        x.hand(Make.BOX, 2);
        CHECK.due("the first pair, itself", x.value(x.call(0, 1, 3)), 1);
        CHECK.due("no copy", x.count(5), 3);
        x.hand(Make.PAIR, -1);
        CHECK.due("a pair that is nothing", x.value(x.call(0, 0, PASS)), -1);
        x.hand(Make.PLAIN, 0);
        CHECK.due("an object", x.value(x.call(0, 0, WHO)), 0);
        CHECK.due("no argument", x.value(x.call(0, 0, NIL)), 0);
        x.hand(Make.PAIR, 0);
        x.hand(Make.BOX, 2);
        c = x.call(0, 1, 2);
        CHECK.due("no text: nothing", x.value(c), -1);
        CHECK.due("state", x.state(c), 1);
        CHECK.due("no double: 0", x.value(x.call(0, 1, 6)), 0);
        x.hand(INT, 5);
        CHECK.due("no boolean: 0", x.value(x.call(0, 2, 1)), 0);
        x.hand(INT, 5);
        CHECK.due("no pair: nothing", x.value(x.call(0, 2, 3)), -1);
    }

    private static void count() {
        CHECK.part("count");
        RemoteDesks x = Make.withDesks(1);
        x.object(0, 0, Make.COUNT, 0, 0);
        x.hand(INT, Integer.MAX_VALUE);
        x.hand(INT, 1);
        CHECK.due("the lowest 32 bits", x.value(x.call(0, 0, ADD)), Integer.MIN_VALUE);
        CHECK.due("low", x.told(0, 3), Integer.MIN_VALUE);
        CHECK.due("high", x.told(0, 4), 0);
        x.hand(INT, -5);
        x.hand(LONG, Long.MAX_VALUE);
        x.hand(BOOLEAN, 1);
        long total = (1L << 31) - 5 + Long.MAX_VALUE + 1;
        CHECK.due("wrapping", x.value(x.call(0, 0, SUM)), total);
        x.hand(DOUBLE, 12345);
        CHECK.due("a double does not count", x.value(x.call(0, 0, REAL)), total);
        x.hand(BOOLEAN, 1);
        CHECK.due("not 0", x.value(x.call(0, 0, IS)), 1);
        Make.letters(x, "a");
        x.hand(TEXT, 0);
        CHECK.due("a text: nothing", x.value(x.call(0, 0, SAY)), -1);
        x.hand(Make.PLAIN, 0);
        CHECK.due("an object: nothing", x.value(x.call(0, 0, WHO)), -1);
        x.node(0);
        x.hand(Make.PAIR, 0);
        CHECK.due("a pair: nothing", x.value(x.call(0, 0, PASS)), -1);
        CHECK.due("lowest bits", x.value(x.call(0, 0, NIL)), (int) (total + 1));
        CHECK.due("begun", x.told(0, 2), 8);
        CHECK.due("high", x.told(0, 4), (int) (total + 1 >> 32));
    }

    private static void countAsSorts() {
        CHECK.part("count as sorts");
        RemoteDesks x = Make.withDesks(1);
        x.object(0, 2, Make.COUNT, 0, 0);
        x.hand(INT, 0);
        CHECK.due("0", x.value(x.call(0, 0, 1)), 0);
        x.hand(INT, -1);
        CHECK.due("-1", x.value(x.call(0, 0, 1)), 1);
        x.hand(LONG, 1L << 40);
        CHECK.due("as double", x.value(x.call(0, 0, 2)), (1L << 40) - 1);
        x.hand(LONG, -(1L << 40) + 1 + (1L << 32));
        CHECK.due("as double", x.value(x.call(0, 0, 2)), 1L << 32);
        x.hand(INT, 0);
        CHECK.due("all bits tell whether it is 0", x.value(x.call(0, 0, 1)), 1);
        x.hand(INT, 0);
        CHECK.due("as pair", x.value(x.call(0, 0, 3)), -1);
    }

    private static void fail() {
        CHECK.part("fail");
        RemoteDesks x = Make.withDesks(2);
        x.failure(4, 17, -1);
        x.failure(3, 999, 0);
        x.object(1, 0, Make.FAIL, 1, 0);
        x.knows(1, 3, false);
        int c = x.call(1, 0, NIL);
        CHECK.due("state", x.state(c), 2);
        CHECK.due("value", x.value(c), Check.NONE);
        CHECK.due("letterOf", x.letterOf(c, 0), Check.NONE);
        CHECK.due("size", x.tree(c, -1, 0), 2);
        CHECK.due("its kind as it is", x.tree(c, 0, 0), 3);
        CHECK.due("note", x.tree(c, 0, 1), 999);
        CHECK.due("desk", x.tree(c, 0, 2), 1);
        CHECK.due("cause", x.tree(c, 0, 3), 1);
        CHECK.due("beside", x.tree(c, 0, 4), 0);
        CHECK.due("what 5", x.tree(c, 0, 5), Check.OUTSIDE);
        CHECK.due("what -1", x.tree(c, 0, -1), Check.OUTSIDE);
        CHECK.due("the cause's kind", x.tree(c, 1, 0), 4);
        CHECK.due("the cause's note", x.tree(c, 1, 1), 17);
        CHECK.due("the cause's desk", x.tree(c, 1, 2), 1);
        CHECK.due("the cause's cause", x.tree(c, 1, 3), 0);
        CHECK.due("i 2", x.tree(c, 2, 5), Check.UNKNOWN);
        CHECK.due("i -2", x.tree(c, -2, 0), Check.UNKNOWN);
        x.beside(1, 0);
        CHECK.due("it was copied", x.tree(c, -1, 0), 2);
        CHECK.due("it was copied", x.tree(c, 0, 4), 0);
        int d = x.call(1, 0, NIL);
        CHECK.due("the failure as it is now", x.tree(d, -1, 0), 3);
        CHECK.due("beside", x.tree(d, 0, 4), 1);
        CHECK.due("begun", x.told(0, 2), 2);
    }

    private static void keep() {
        CHECK.part("keep");
        RemoteDesks x = Make.withDesks(1);
        x.object(0, 1, Make.KEEP, 0, 0);
        x.object(0, 0, Make.ECHO, 0, 0);
        x.object(0, 1, Make.ECHO, 0, 0);
        x.hand(Make.PLAIN, 1);
        x.hand(Make.OTHER, 2);
        CHECK.due("nothing before", x.value(x.call(0, 0, 1)), -1);
        CHECK.due("the last", x.told(0, 5), 2);
        x.hand(Make.PLAIN, 1);
        x.hand(Make.OTHER, 0);
        CHECK.due("of another sort", x.value(x.call(0, 0, 4)), -1);
        CHECK.due("kept", x.told(0, 5), 0);
        x.hand(Make.PLAIN, 1);
        x.hand(Make.OTHER, -1);
        CHECK.due("what it kept", x.value(x.call(0, 0, 1)), 0);
        CHECK.due("the last is nothing", x.told(0, 5), -1);
        x.hand(Make.PLAIN, -1);
        x.hand(Make.OTHER, 2);
        CHECK.due("nothing", x.value(x.call(0, 0, 1)), -1);
        CHECK.due("kept", x.told(0, 5), 2);
        x.hand(INT, 0);
        x.hand(INT, 0);
        CHECK.due("an int: 0", x.value(x.call(0, 0, 5)), 0);
        CHECK.due("no such argument", x.told(0, 5), -1);
        x.object(0, 0, Make.KEEP, 0, 0);
        x.hand(Make.PLAIN, 3);
        CHECK.due("nothing before", x.value(x.call(0, 3, WHO)), -1);
        CHECK.due("kept", x.told(3, 5), 3);
        x.hand(Make.PLAIN, 1);
        CHECK.due("what it kept", x.value(x.call(0, 3, WHO)), 3);
        CHECK.due("kept", x.told(3, 5), 1);
        CHECK.due("an int: 0", x.value(x.call(0, 3, NIL)), 0);
        CHECK.due("no argument", x.told(3, 5), -1);
    }

    private static void raise() {
        CHECK.part("raise");
        RemoteDesks x = Make.withDesks(1);
        x.object(0, 1, Make.RAISE, 0, 0);
        x.object(0, 0, Make.ECHO, 0, 0);
        for (int i = 0; i < 4; i++) {
            x.node(0);
        }
        x.node(1);
        x.set(0, 0, Integer.MAX_VALUE);
        x.set(0, 1, Long.MAX_VALUE);
        x.set(0, 2, 50);
        x.set(0, 3, 1);
        Make.letters(x, "q");
        x.set(0, 4, 0);
        x.set(0, 5, 1);
        x.set(1, 5, 0);
        x.set(1, 1, 0xffffffffL);
        x.set(4, 1, 2);
        x.set(4, 0, 1);
        x.set(2, 5, 1);
        x.hand(Make.PAIR, 0);
        x.hand(Make.PAIR, 0);
        x.hand(Make.BOX, 4);
        int c = x.call(0, 0, 3);
        CHECK.due("as echo", x.value(c), 0);
        CHECK.due("int wraps", x.field(0, 0), Integer.MIN_VALUE);
        CHECK.due("long wraps", x.field(0, 1), Long.MIN_VALUE);
        CHECK.due("double stays", x.field(0, 2), 50);
        CHECK.due("boolean stays", x.field(0, 3), 1);
        CHECK.due("text stays", x.letterAt(0, 4, 0), 'q');
        CHECK.due("pair stays", x.field(0, 5), 1);
        CHECK.due("once", x.field(1, 0), 1);
        CHECK.due("once", x.field(1, 1), 0x100000000L);
        CHECK.due("in the box", x.field(2, 0), 1);
        CHECK.due("the box", x.field(4, 2), 1);
        CHECK.due("its object stays", x.field(4, 0), 1);
        CHECK.due("one that is not reached", x.field(3, 0), 0);
        x.hand(INT, 6);
        x.hand(INT, 7);
        CHECK.due("without nodes", x.value(x.call(0, 0, 5)), 6);
        x.object(0, 0, Make.RAISE, 0, 0);
        x.hand(Make.PLAIN, 1);
        CHECK.due("an object", x.value(x.call(0, 2, WHO)), 1);
        CHECK.due("the node of that number stays", x.field(1, 0), 1);
    }

    private static void raiseOfManyNodes() {
        CHECK.part("raise of 60 nodes");
        RemoteDesks x = Make.withDesks(1);
        x.object(0, 0, Make.RAISE, 0, 0);
        for (int i = 0; i < 60; i++) {
            x.node(0);
            x.set(i, 5, i - 1);
        }
        x.set(0, 5, 59);
        x.hand(Make.PAIR, 30);
        x.call(0, 0, PASS);
        for (int i = 0; i < 60; i++) {
            CHECK.due("field(" + i + ", 0)", x.field(i, 0), 1);
        }
    }

    private static void localRelay() {
        CHECK.part("relay at the same desk");
        RemoteDesks x = Make.withDesks(1);
        x.failure(2, 5, -1);
        x.object(0, 0, Make.COUNT, 0, 0);
        x.object(0, 1, Make.RELAY, 0, ADD);
        x.object(0, 0, Make.FAIL, 0, 0);
        x.object(0, 1, Make.RELAY, 2, ADD);
        x.object(0, 1, Make.RELAY, 1, 5);
        x.hand(INT, 3);
        x.hand(INT, 4);
        CHECK.due("call", x.call(0, 1, 5), 0);
        CHECK.due("calls", x.count(7), 2);
        CHECK.due("value", x.value(0), 7);
        CHECK.due("value within", x.value(1), 7);
        int[] about = {0, 0, ADD, 0, 0, 0};
        for (int what = 0; what < about.length; what++) {
            CHECK.due("about(1, " + what + ")", x.about(1, what), about[what]);
        }
        CHECK.due("about(0, 3)", x.about(0, 3), Check.NONE);
        CHECK.due("begun", x.told(1, 2), 1);
        CHECK.due("begun within", x.told(0, 2), 1);
        x.hand(INT, 3);
        x.hand(INT, 4);
        CHECK.due("call", x.call(0, 3, 5), 2);
        CHECK.due("it fails", x.state(2), 2);
        CHECK.due("kind", x.tree(2, 0, 0), 2);
        CHECK.due("note", x.tree(2, 0, 1), 5);
        CHECK.due("within", x.tree(3, 0, 1), 5);
        x.hand(INT, 1);
        x.hand(INT, 1);
        CHECK.due("two relays", x.call(0, 4, 5), 4);
        CHECK.due("calls", x.count(7), 7);
        CHECK.due("value", x.value(4), 9);
        CHECK.due("outer of 5", x.about(5, 3), 4);
        CHECK.due("outer of 6", x.about(6, 3), 5);
        x.hand(Make.PLAIN, 0);
        x.hand(Make.OTHER, 1);
        CHECK.due("other sorts", x.call(0, 1, 4), 7);
        CHECK.due("state", x.state(7), 2);
        CHECK.due("kind", x.tree(7, 0, 0), 0);
        CHECK.due("note", x.tree(7, 0, 1), 905);
        CHECK.due("size", x.tree(7, -1, 0), 1);
        CHECK.due("no call within", x.count(7), 8);
    }

    private static void relayToItself() {
        CHECK.part("relay to itself");
        RemoteDesks x = Make.withDesks(1);
        x.object(0, 0, Make.RELAY, 0, NIL);
        CHECK.due("call", x.call(0, 0, NIL), 0);
        CHECK.due("calls", x.count(7), 60);
        for (int i = 0; i < 60; i++) {
            CHECK.due("state", x.state(i), 2);
            CHECK.due("note", x.tree(i, 0, 1), 906);
            CHECK.due("desk", x.tree(i, 0, 2), 0);
            CHECK.due("outer", x.about(i, 3), i - 1);
        }
        CHECK.due("begun", x.told(0, 2), 60);
        CHECK.due("call 60", x.call(0, 0, NIL), Check.FULL);
        CHECK.due("begun", x.told(0, 2), 60);
        CHECK.due("unknown ahead of full", x.call(0, 0, 8), Check.UNKNOWN);
        x.hand(INT, 0);
        CHECK.due("not ahead of full", x.call(0, 0, NIL), Check.NOT);
        CHECK.due("the hand stays", x.open(), 1);
    }
}
