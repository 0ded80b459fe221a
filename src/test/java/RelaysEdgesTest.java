/** What part 7 of the document says of RELAYS and of what waits for them, one test for each sentence that names an edge. */
public final class RelaysEdgesTest {
    private static final Check CHECK = new Check();
    private static final int INT = 0, LONG = 1, BOOLEAN = 3, TEXT = 4, NODE = 10;
    /** Two services that differ in the answers and arguments of methods with the same numbers. */
    private static final String BOOK = Make.ROW_RECORD
        + "service s{int nil();int one(int);int two(int,long);r row(r);int flag(r,boolean);long nol();}"
        + "service t{long nil();int one(long);int two(int);int row(r);int flag(r,boolean);long nol();}";
    private static final int NIL = 0, ONE = 1, TWO = 2, ROW = 3, FLAG = 4;
    private static final int ROW_NODES = Make.ROW_NODES;

    public static void main(String[] args) {
        noReference();
        hostedNeedsNone();
        otherSorts();
        methodThatIsNotThere();
        theLastOfSixty();
        requestOf240Bytes();
        noRequestIsNeverTooGreat();
        firstThatFits();
        failsAtOnce();
        answersWhatWasAnswered();
        failsWithTheTreeAsItCame();
        givenUpByItsOwnUnits();
        agedWithin();
        valueLacksWithin();
        longestRowOfRelays();
        longestRowCalledFromAnotherDesk();
        whatWaitsIsGone();
        whatWaitsInARow();
        relayOfAForgottenCall();
        CHECK.end();
    }

    /** Desk 2 hosts object 0 of service s; desk 1 hosts object 1, a relay of service s to m of it; desk 0 holds the relay. */
    private static RemoteDesks threeDesks(int deed, int m) {
        RemoteDesks x = new RemoteDesks();
        CHECK.due("describe", Make.describe(x, BOOK), 2);
        for (int i = 0; i < 3; i++) {
            x.desk();
        }
        x.failure(0, 77, -1);
        x.object(2, 0, deed, 0, 0);
        x.object(1, 0, Make.RELAY, 0, m);
        x.give(1, 0);
        x.give(0, 1);
        return x;
    }

    private static void failedWith(RemoteDesks x, int call, int note, int desk) {
        CHECK.due("state(" + call + ")", x.state(call), 2);
        CHECK.due("size", x.tree(call, -1, 0), 1);
        int[] due = {0, note, desk, 0, 0};
        for (int what = 0; what < due.length; what++) {
            CHECK.due("tree(" + call + ", 0, " + what + ")", x.tree(call, 0, what), due[what]);
        }
    }

    /** "note 904: this DESK has no REFERENCE to that OBJECT": it was never given, or was released. */
    private static void noReference() {
        CHECK.part("904");
        RemoteDesks x = threeDesks(Make.ECHO, NIL);
        x.release(1, 0);
        x.call(1, 1, NIL);
        failedWith(x, 0, 904, 1);
        x.give(0, 0);
        x.call(1, 1, NIL);
        failedWith(x, 1, 904, 1);
        x.give(1, 0);
        x.call(1, 1, NIL);
        CHECK.due("it waits", x.state(2), 0);
        x.release(1, 0);
        Make.deliverAll(x);
        CHECK.due("released behind the call", x.state(2), 1);
        x.call(1, 1, NIL);
        failedWith(x, 4, 904, 1);
    }

    /** "to those that it HOSTS always". */
    private static void hostedNeedsNone() {
        CHECK.part("a relay to one that its desk hosts");
        RemoteDesks x = threeDesks(Make.ECHO, NIL);
        x.object(2, 0, Make.RELAY, 0, NIL);
        x.call(2, 2, NIL);
        CHECK.due("state", x.state(0), 1);
        CHECK.due("calls", x.count(7), 2);
        CHECK.due("no slot", x.count(8), 0);
    }

    /** A relay of one service to method m of the other, called by its method k at its own desk. */
    private static int noteOf(int service, int m, int k, int[] sorts) {
        RemoteDesks x = new RemoteDesks();
        Make.describe(x, BOOK);
        x.desk();
        x.object(0, 1 - service, Make.ECHO, 0, 0);
        x.object(0, service, Make.RELAY, 0, m);
        for (int sort : sorts) {
            x.hand(sort, sort == NODE ? -1 : 0);
        }
        CHECK.due("call", x.call(0, 1, k), 0);
        return x.state(0) == 2 ? x.tree(0, 0, 1) : -x.state(0);
    }

    /** "905: the arguments' SORTS, or the answer's, are not those of its method m". */
    private static void otherSorts() {
        CHECK.part("905");
        int[] none = {};
        int[] one = {INT};
        int[] two = {INT, LONG};
        int[] flag = {NODE, BOOLEAN};
        CHECK.due("another answer", noteOf(0, NIL, NIL, none), 905);
        CHECK.due("another answer of the same arguments", noteOf(0, ROW, ROW, new int[] {NODE}), 905);
        CHECK.due("another sort", noteOf(0, ONE, ONE, one), 905);
        CHECK.due("fewer arguments", noteOf(0, TWO, TWO, two), 905);
        CHECK.due("more arguments", noteOf(1, TWO, TWO, one), 905);
        CHECK.due("an argument where there is none", noteOf(0, NIL, ONE, one), 905);
        CHECK.due("none where there is one", noteOf(0, ONE, NIL, none), 905);
        CHECK.due("just the same", noteOf(0, FLAG, FLAG, flag), -1);
        CHECK.due("just the same, of another number", noteOf(0, 5, 5, none), -1);
        CHECK.due("just the same, of another number", noteOf(1, 5, NIL, none), -1);
        CHECK.due("just the same, of another number", noteOf(0, TWO, ONE, one), -1);
    }

    /** A method m that its service has not is none with those SORTS. */
    private static void methodThatIsNotThere() {
        CHECK.part("905 of a method that is not there");
        for (int m = 5; m <= 7; m++) {
            CHECK.due("m " + m, noteOf(1, m, NIL, new int[0]), m == 5 ? -1 : 905);
        }
    }

    /** "906: there are 60 CALLS". */
    private static void theLastOfSixty() {
        CHECK.part("906");
        for (int before = 57; before <= 59; before++) {
            RemoteDesks x = threeDesks(Make.COUNT, NIL);
            for (int i = 0; i < before; i++) {
                x.call(2, 0, NIL);
            }
            CHECK.due("call", x.call(0, 1, NIL), before);
            Make.deliverAll(x);
            if (before < 59) {
                CHECK.due("the call within is " + (before + 1), x.count(7), before + 2);
                CHECK.due("state", x.state(before), 1);
            } else {
                CHECK.due("no call within", x.count(7), 60);
                failedWith(x, before, 906, 1);
            }
            CHECK.due("the relay's deed was begun", x.told(1, 2), 1);
        }
    }

    /** "907: the REQUEST would be TOO GREAT": of 240 bytes it is not. */
    private static void requestOf240Bytes() {
        CHECK.part("907");
        for (int bytes = 240; bytes <= 241; bytes++) {
            RemoteDesks x = threeDesks(Make.COUNT, FLAG);
            Make.row(x, bytes - 4);
            x.hand(NODE, ROW_NODES - 1);
            x.hand(BOOLEAN, 1);
            CHECK.due("call", x.call(1, 1, FLAG), 0);
            if (bytes == 240) {
                CHECK.due("parts", x.count(8), 10);
                Make.deliverAll(x);
                CHECK.due("state", x.state(0), 1);
                CHECK.due("value", x.value(0), 1);
            } else {
                failedWith(x, 0, 907, 1);
                CHECK.due("no call within", x.count(7), 1);
                CHECK.due("no slot", x.count(8), 0);
            }
        }
        twelveNodes();
    }

    private static void twelveNodes() {
        for (int nodes = 12; nodes <= 13; nodes++) {
            RemoteDesks x = new RemoteDesks();
            Make.describe(x, "record r{r n;}service s{int a(r);}");
            x.desk();
            x.desk();
            x.object(1, 0, Make.COUNT, 0, 0);
            x.object(0, 0, Make.RELAY, 0, 0);
            x.give(0, 0);
            for (int i = 0; i < nodes; i++) {
                x.node(0);
                x.set(i, 0, i - 1);
            }
            x.hand(NODE, nodes - 1);
            x.call(0, 1, 0);
            CHECK.due(nodes + " nodes", x.state(0), nodes == 12 ? 0 : 2);
            CHECK.due("note", x.tree(0, 0, 1), nodes == 12 ? Check.UNKNOWN : 907);
        }
    }

    /** A CALL to an OBJECT of the same DESK has no REQUEST. */
    private static void noRequestIsNeverTooGreat() {
        CHECK.part("no request");
        RemoteDesks x = threeDesks(Make.COUNT, FLAG);
        x.object(2, 0, Make.RELAY, 0, FLAG);
        Make.row(x, 238);
        x.hand(NODE, ROW_NODES - 1);
        x.hand(BOOLEAN, 1);
        x.call(2, 2, FLAG);
        CHECK.due("state", x.state(0), 1);
        CHECK.due("value", x.value(0), 1);
    }

    /** "(the first of these that fits)". */
    private static void firstThatFits() {
        CHECK.part("the first that fits");
        RemoteDesks x = threeDesks(Make.COUNT, FLAG);
        Make.row(x, 238);
        x.release(1, 0);
        // no reference, other sorts
        x.call(1, 1, NIL);
        failedWith(x, 0, 904, 1);
        // no reference, too great
        x.hand(NODE, ROW_NODES - 1);
        x.hand(BOOLEAN, 1);
        x.call(1, 1, FLAG);
        failedWith(x, 1, 904, 1);
        // other sorts, too great
        x.give(1, 0);
        x.hand(NODE, ROW_NODES - 1);
        x.call(1, 1, ROW);
        failedWith(x, 2, 905, 1);
        for (int i = 3; i < 59; i++) {
            x.call(2, 0, NIL);
        }
        CHECK.due("calls", x.count(7), 59);
        x.hand(NODE, ROW_NODES - 1);
        x.hand(BOOLEAN, 1);
        x.call(1, 1, FLAG);
        // 60 calls, too great
        failedWith(x, 59, 906, 1);
        sixtyAndOthers();
    }

    private static void sixtyAndOthers() {
        for (int without = 0; without < 2; without++) {
            RemoteDesks x = threeDesks(Make.COUNT, FLAG);
            if (without == 0) {
                x.release(1, 0);
            }
            for (int i = 0; i < 59; i++) {
                x.call(2, 0, NIL);
            }
            x.call(1, 1, NIL);
            failedWith(x, 59, without == 0 ? 904 : 905, 1);
        }
    }

    /** "It fails at once": the ANSWER is sent as the REQUEST is taken. */
    private static void failsAtOnce() {
        CHECK.part("at once");
        RemoteDesks x = threeDesks(Make.COUNT, TWO);
        x.call(0, 1, NIL);
        CHECK.due("through", x.through(0), 1);
        int[] answer = {16, 1, 0, 0, 1, 1, 0, 905 >> 8, 905 & 255, 1, 0, 0, -1};
        for (int k = 0; k < answer.length; k++) {
            CHECK.due("slot(0, " + k + ")", x.slot(0, k), answer[k]);
        }
        CHECK.due("shelf", x.audit(1, 2), 1);
        x.through(0);
        failedWith(x, 0, 905, 1);
    }

    /** "When the CALL within is 1, its VALUE is answered": of each SORT, at its ends. */
    private static void answersWhatWasAnswered() {
        CHECK.part("answered");
        RemoteDesks x = new RemoteDesks();
        Make.describe(x, "service s{int a(int);long b(long);double c(double);boolean d(boolean);text e(text);s f(s);}");
        x.desk();
        x.desk();
        x.desk();
        x.object(2, 0, Make.ECHO, 0, 0);
        for (int m = 0; m < 6; m++) {
            x.object(1, 0, Make.RELAY, 0, m);
            x.give(0, m + 1);
        }
        x.give(1, 0);
        long[][] v = {{Integer.MIN_VALUE, Integer.MAX_VALUE, -1}, {Long.MIN_VALUE, Long.MAX_VALUE, -1},
            {Long.MIN_VALUE, 0x7ff8000000000001L, -1}, {0, 1, 1}, {-1, -1, -1}, {-1, 6, 0}};
        int[] sorts = {0, 1, 2, 3, 4, 20};
        for (int m = 0; m < 6; m++) {
            for (long one : v[m]) {
                x.hand(sorts[m], one);
                int c = x.call(0, m + 1, m);
                Make.deliverAll(x);
                CHECK.due("value of method " + m, x.value(c), one);
                CHECK.due("value within", x.value(c + 1), one);
            }
        }
        Make.letters(x, "0123456789abcdef");
        x.hand(TEXT, 0);
        int c = x.call(0, 5, 4);
        Make.deliverAll(x);
        CHECK.due("a text", x.value(c), 16);
        CHECK.due("its last byte", x.letterOf(c, 15), 'f');
    }

    /** "when it is 2, its TREE, as it came, is what it fails with": 12 FAILURES, and kinds as the DESKS on the way KNOW them. */
    private static void failsWithTheTreeAsItCame() {
        CHECK.part("failed");
        RemoteDesks x = new RemoteDesks();
        Make.describe(x, "failure a;failure b of a;failure c of b;service s{int m();}");
        x.desk();
        x.desk();
        x.desk();
        for (int i = 0; i < 12; i++) {
            x.failure(3, i, i - 1);
        }
        x.object(2, 0, Make.FAIL, 11, 0);
        x.object(1, 0, Make.RELAY, 0, 0);
        x.give(1, 0);
        x.give(0, 1);
        x.knows(1, 3, false);
        x.knows(0, 2, false);
        x.call(0, 1, 0);
        Make.deliverAll(x);
        CHECK.due("size within", x.tree(1, -1, 0), 12);
        CHECK.due("size", x.tree(0, -1, 0), 12);
        for (int i = 0; i < 12; i++) {
            CHECK.due("kind within", x.tree(1, i, 0), 2);
            // kind 3, which desk 0 knows, did not come to it
            CHECK.due("kind", x.tree(0, i, 0), 1);
            CHECK.due("note", x.tree(0, i, 1), 11 - i);
            CHECK.due("desk", x.tree(0, i, 2), 2);
        }
    }

    /** "3: kind 0, note 908": the 36 units of the CALL within are its own. */
    private static void givenUpByItsOwnUnits() {
        CHECK.part("908");
        RemoteDesks x = threeDesks(Make.ECHO, NIL);
        x.call(0, 1, NIL);
        x.tick(30);
        x.through(0);
        CHECK.due("the call within", x.count(7), 2);
        x.tick(6);
        CHECK.due("outer", x.state(0), 3);
        CHECK.due("within", x.state(1), 0);
        x.tick(29);
        CHECK.due("within", x.state(1), 0);
        CHECK.due("no answer", x.audit(1, 2), 0);
        x.tick(1);
        CHECK.due("within", x.state(1), 3);
        CHECK.due("an answer", x.audit(1, 2), 1);
        CHECK.due("its note", x.slot(x.count(8) - 1, 7) * 256 + x.slot(x.count(8) - 1, 8), 908);
        Make.deliverAll(x);
        CHECK.due("outer", x.state(0), 3);
    }

    /** "4: note 909, both thrown at its DESK". */
    private static void agedWithin() {
        CHECK.part("909");
        RemoteDesks x = threeDesks(Make.ECHO, NIL);
        x.call(0, 1, NIL);
        x.through(0);
        x.restart(2);
        Make.deliverAll(x);
        CHECK.due("within", x.state(1), 4);
        failedWith(x, 0, 909, 1);
        x.give(1, 0);
        x.call(0, 1, NIL);
        Make.deliverAll(x);
        CHECK.due("with its age as it is now", x.state(2), 1);
    }

    /** A CALL within for whose VALUE NODES lack is 2, and so is the RELAY's. */
    private static void valueLacksWithin() {
        CHECK.part("903 within");
        RemoteDesks x = threeDesks(Make.ECHO, ROW);
        for (int i = 0; i < 58; i++) {
            x.node(0);
        }
        x.hand(NODE, 0);
        x.call(0, 1, ROW);
        Make.deliverAll(x);
        CHECK.due("nodes", x.count(5), 60);
        failedWith(x, 1, 903, 1);
        failedWith(x, 0, 903, 1);
        RemoteDesks y = threeDesks(Make.ECHO, ROW);
        for (int i = 0; i < 59; i++) {
            y.node(0);
        }
        y.hand(NODE, 0);
        y.call(0, 1, ROW);
        Make.deliverAll(y);
        failedWith(y, 1, 902, 2);
        failedWith(y, 0, 902, 2);
    }

    /** "or this one itself": it ends when there are 60 CALLS. */
    private static void longestRowOfRelays() {
        CHECK.part("a relay to itself");
        RemoteDesks x = new RemoteDesks();
        Make.describe(x, BOOK);
        x.desk();
        x.object(0, 0, Make.RELAY, 0, NIL);
        CHECK.due("call", x.call(0, 0, NIL), 0);
        CHECK.due("calls", x.count(7), 60);
        failedWith(x, 0, 906, 0);
        failedWith(x, 59, 906, 0);
        CHECK.due("the last one's outer", x.about(59, 3), 58);
        CHECK.due("deeds", x.told(0, 2), 60);
    }

    /** The same, when the first of them came in a message; its ANSWER goes home. */
    private static void longestRowCalledFromAnotherDesk() {
        CHECK.part("a relay to itself, called from another desk");
        RemoteDesks x = new RemoteDesks();
        Make.describe(x, BOOK);
        x.desk();
        x.desk();
        x.object(1, 0, Make.RELAY, 0, NIL);
        x.give(0, 0);
        CHECK.due("call", x.call(0, 0, NIL), 0);
        CHECK.due("calls", x.count(7), 1);
        CHECK.due("through", x.through(0), 1);
        CHECK.due("calls", x.count(7), 60);
        failedWith(x, 1, 906, 1);
        CHECK.due("not home yet", x.state(0), 0);
        Make.deliverAll(x);
        failedWith(x, 0, 906, 1);
    }

    /** restart(): "CALLS that it made and that are 0 are 5, and what waits for them is gone". */
    private static void whatWaitsIsGone() {
        CHECK.part("what waits is gone");
        RemoteDesks x = threeDesks(Make.COUNT, NIL);
        x.call(0, 1, NIL);
        x.through(0);
        x.through(0);
        CHECK.due("the answer within is on the way", x.slot(0, 2), 1);
        x.restart(1);
        CHECK.due("within", x.state(1), 5);
        x.through(0);
        CHECK.due("thanks alone", x.count(8), 1);
        CHECK.due("thanks", x.slot(0, 1), 2);
        CHECK.due("no answer", x.audit(1, 2), 0);
        CHECK.due("outer", x.state(0), 0);
        CHECK.due("it stays told", x.about(1, 3), 0);
        x.tick(36);
        CHECK.due("outer", x.state(0), 3);
        CHECK.due("within", x.state(1), 5);
        CHECK.due("sent once", x.about(1, 4), 1);
    }

    /** A RELAY to a RELAY of the same DESK: both CALLS that the DESK made are 5. */
    private static void whatWaitsInARow() {
        CHECK.part("a row that waits");
        RemoteDesks x = threeDesks(Make.COUNT, NIL);
        x.object(1, 0, Make.RELAY, 1, NIL);
        x.give(0, 2);
        x.call(0, 2, NIL);
        x.through(0);
        CHECK.due("calls", x.count(7), 3);
        CHECK.due("states", x.state(0) + x.state(1) + x.state(2), 0);
        x.restart(2);
        CHECK.due("another desk's restart leaves them", x.state(0) + x.state(1) + x.state(2), 0);
        x.restart(1);
        CHECK.due("outer", x.state(0), 0);
        CHECK.due("in the midst", x.state(1), 5);
        CHECK.due("within", x.state(2), 5);
        Make.deliverAll(x);
        CHECK.due("in the midst", x.state(1), 5);
        CHECK.due("within", x.state(2), 5);
        CHECK.due("no value", x.value(1), Check.NONE);
    }

    /** The RELAY answers a CALL that was given up or forgotten all the same. */
    private static void relayOfAForgottenCall() {
        CHECK.part("the caller forgot it");
        RemoteDesks x = threeDesks(Make.COUNT, ONE);
        x.hand(INT, 5);
        x.call(0, 1, ONE);
        x.through(0);
        x.restart(0);
        x.through(0);
        x.through(0);
        CHECK.due("within", x.state(1), 1);
        CHECK.due("the answer is on the shelf", x.audit(1, 2), 1);
        Make.deliverAll(x);
        CHECK.due("thanks took it off", x.audit(1, 2), 0);
        CHECK.due("outer", x.state(0), 5);
        CHECK.due("no value", x.value(0), Check.NONE);
    }
}
