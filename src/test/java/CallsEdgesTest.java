/** Part 7 of the document and promises 23 to 28 and 33 to 35, one test for each sentence that names an edge. */
public final class CallsEdgesTest {
    private static final Check CHECK = new Check();
    private static final int INT = 0, LONG = 1, TEXT = 4, NODE = 10;
    private static final int LEAST = Integer.MIN_VALUE, GREATEST = Integer.MAX_VALUE;
    private static final int[] WILD = {-1, -2, LEAST, GREATEST};
    private static final String BOOK = "record r{r n;}record t{text a;text b;text c;text d;}"
        + "service s{int nil();r pass(r);text say(text);t tell(t);int add(int,long);}service e{}";
    private static final int NIL = 0, PASS = 1, SAY = 2, TELL = 3, ADD = 4;

    public static void main(String[] args) {
        sixtyInALife();
        methodsThatThereAre();
        justTheSorts();
        refusedHandStays();
        eachState();
        valueUnlessAnswered();
        bytesOfAnAnswer();
        treeOfACall();
        aboutWhat();
        unitsOfARequest();
        answeredAtTheLastUnit();
        noneOnceItIsNotZero();
        agedIsNotSentAgain();
        partsInEachOrder();
        tenPartsBackwards();
        aPartThatIsKept();
        gatheredAnew();
        shelfThenBegunThenAge();
        ageJustTheDesks();
        argumentsJustFit();
        noNodesAreNeeded();
        valueJustFits();
        thanksTwice();
        thanksToADeskThatStartedAnew();
        agesUpTo200();
        restartOfWhatIsNotZero();
        unitsOfTime();
        auditWhat();
        CHECK.end();
    }

    /** Desk 1 hosts object 0; desk 0 holds it. */
    private static RemoteDesks twoDesks(int deed) {
        RemoteDesks x = new RemoteDesks();
        CHECK.due("describe", Make.describe(x, BOOK), 2);
        x.desk();
        x.desk();
        x.object(1, 0, deed, 0, 0);
        x.give(0, 0);
        return x;
    }

    /** "CALLS (60 at most in a life, those of RELAYS and carry() among them)"; call(): "FULL (60 ..)". */
    private static void sixtyInALife() {
        CHECK.part("60 calls in a life");
        RemoteDesks x = twoDesks(Make.ECHO);
        x.object(1, 0, Make.RELAY, 0, NIL);
        x.supply(0, 0, 100);
        for (int i = 0; i < 60; i += 5) {
            CHECK.due("a call", x.call(0, 0, NIL), i);
            CHECK.due("a call at its own desk", x.call(1, 0, NIL), i + 1);
            CHECK.due("a carry", x.carry(0, 1, 0, 1), i + 2);
            CHECK.due("a relay", x.call(1, 1, NIL), i + 3);
            CHECK.due("with the call within", x.count(7), i + 5);
        }
        CHECK.due("a call more", x.call(0, 0, NIL), Check.FULL);
        CHECK.due("one at its own desk", x.call(1, 0, NIL), Check.FULL);
        CHECK.due("a carry more", x.carry(0, 1, 0, 1), Check.FULL);
        CHECK.due("a relay more", x.call(1, 1, NIL), Check.FULL);
        x.restart(0);
        x.restart(1);
        CHECK.due("those of a life, restarts or not", x.call(0, 0, NIL), Check.FULL);
        CHECK.due("the last one", x.about(59, 3), 58);
        CHECK.due("60 is not there", x.state(60), Check.UNKNOWN);
        CHECK.due("no deed was done for those", x.told(0, 2), 24);
    }

    /** call(): "UNKNOWN (also m)". */
    private static void methodsThatThereAre() {
        CHECK.part("methods that there are");
        RemoteDesks x = twoDesks(Make.COUNT);
        x.object(1, 1, Make.COUNT, 0, 0);
        for (int wild : new int[] {-1, 5, 7, 8, LEAST, GREATEST}) {
            CHECK.due("method " + wild, x.call(1, 0, wild), Check.UNKNOWN);
            CHECK.due("method " + wild + " without a reference", x.call(0, 1, wild), Check.UNKNOWN);
        }
        CHECK.due("a service without methods", x.call(1, 1, 0), Check.UNKNOWN);
        for (int wild : new int[] {-1, 2, 8, LEAST, GREATEST}) {
            CHECK.due("desk " + wild, x.call(wild, 0, NIL), Check.UNKNOWN);
            CHECK.due("object " + wild, x.call(0, wild, NIL), Check.UNKNOWN);
        }
        x.hand(INT, 1);
        x.hand(LONG, 2);
        CHECK.due("the last method", x.call(1, 0, ADD), 0);
        CHECK.due("the first method", x.call(1, 0, NIL), 1);
    }

    /** call(): "NOT (.. THE HAND has not just the SORTS of the method)". */
    private static void justTheSorts() {
        CHECK.part("just the sorts");
        RemoteDesks x = twoDesks(Make.ECHO);
        int[][] wrong = {{}, {INT}, {LONG}, {LONG, INT}, {INT, INT}, {LONG, LONG}, {INT, LONG, INT}, {INT, INT, LONG}};
        for (int d = 0; d < 2; d++) {
            for (int[] sorts : wrong) {
                for (int sort : sorts) {
                    x.hand(sort, 1);
                }
                CHECK.due("call", x.call(d, 0, ADD), Check.NOT);
                CHECK.due("the hand stays", x.open(), sorts.length);
            }
            x.hand(INT, 1);
            CHECK.due("one for a method without arguments", x.call(d, 0, NIL), Check.NOT);
            x.open();
            x.hand(INT, 1);
            x.hand(LONG, 1);
            CHECK.due("just these", x.call(d, 0, ADD), d);
            CHECK.due("the hand is empty then", x.open(), 0);
        }
        // a record is a SORT of its own
        x.hand(11, -1);
        CHECK.due("another record", x.call(0, 0, PASS), Check.NOT);
        x.open();
        x.hand(10, -1);
        CHECK.due("just that one", x.call(0, 0, PASS), 2);
    }

    /** call(): "THE HAND (empty then; it stays, if this is refused)": for each refusal. */
    private static void refusedHandStays() {
        CHECK.part("the hand stays");
        RemoteDesks x = twoDesks(Make.COUNT);
        x.hand(INT, 5);
        x.hand(LONG, 6);
        CHECK.due("UNKNOWN", x.call(2, 0, ADD), Check.UNKNOWN);
        CHECK.due("UNKNOWN", x.call(0, 0, 9), Check.UNKNOWN);
        x.release(0, 0);
        CHECK.due("NOT", x.call(0, 0, ADD), Check.NOT);
        x.give(0, 0);
        CHECK.due("NOT", x.call(0, 0, NIL), Check.NOT);
        CHECK.due("no call", x.count(7), 0);
        CHECK.due("call", x.call(0, 0, ADD), 0);
        Make.deliverAll(x);
        CHECK.due("with what was in it", x.value(0), 11);
        for (int i = 1; i < 60; i++) {
            x.call(1, 0, NIL);
        }
        x.hand(INT, 5);
        x.hand(LONG, 6);
        CHECK.due("FULL", x.call(0, 0, ADD), Check.FULL);
        CHECK.due("it stays", x.open(), 2);
    }

    /** An object whose calls 0 to 5 have the states 0 to 5. */
    private static RemoteDesks states() {
        RemoteDesks x = twoDesks(Make.ECHO);
        x.failure(0, 7, -1);
        x.object(1, 0, Make.FAIL, 0, 0);
        x.give(0, 1);
        x.desk();
        x.give(2, 0);
        x.call(1, 0, NIL);
        x.call(0, 0, NIL);
        x.call(0, 1, NIL);
        x.call(0, 0, NIL);
        Make.deliverAll(x);
        x.call(0, 0, NIL);
        x.lose(0);
        x.tick(36);
        x.restart(1);
        x.call(0, 0, NIL);
        Make.deliverAll(x);
        x.call(2, 0, NIL);
        x.restart(2);
        x.give(0, 0);
        x.call(0, 0, NIL);
        return x;
    }

    /** "STATES: 0 on the way, 1 answered, 2 failed, 3 given up, 4 AGED, 5 forgotten." */
    private static void eachState() {
        CHECK.part("each state");
        RemoteDesks x = states();
        int[] due = {1, 1, 2, 1, 3, 4, 5, 0};
        for (int i = 0; i < due.length; i++) {
            CHECK.due("state(" + i + ")", x.state(i), due[i]);
        }
        for (int c : new int[] {-1, due.length, 60, LEAST, GREATEST}) {
            CHECK.due("state(" + c + ")", x.state(c), Check.UNKNOWN);
        }
    }

    /** value(): "NONE unless it is 1"; letterOf(): "NONE"; tree(): "(0 unless the CALL is 2)". */
    private static void valueUnlessAnswered() {
        CHECK.part("values and trees of each state");
        RemoteDesks x = states();
        for (int i = 0; i < 8; i++) {
            boolean answered = x.state(i) == 1;
            CHECK.due("value(" + i + ")", x.value(i), answered ? 0 : Check.NONE);
            CHECK.due("letterOf(" + i + ", 0)", x.letterOf(i, 0), Check.NONE);
            CHECK.due("tree(" + i + ", -1, 0)", x.tree(i, -1, 0), i == 2 ? 1 : 0);
            CHECK.due("tree(" + i + ", 0, 1)", x.tree(i, 0, 1), i == 2 ? 7 : Check.UNKNOWN);
        }
        for (int c : new int[] {-1, 8, LEAST, GREATEST}) {
            CHECK.due("value(" + c + ")", x.value(c), Check.UNKNOWN);
            CHECK.due("letterOf(" + c + ", 0)", x.letterOf(c, 0), Check.UNKNOWN);
            CHECK.due("tree(" + c + ", -1, 0)", x.tree(c, -1, 0), Check.UNKNOWN);
            CHECK.due("tree(" + c + ", 0, 9)", x.tree(c, 0, 9), Check.UNKNOWN);
            CHECK.due("about(" + c + ", 9)", x.about(c, 9), Check.UNKNOWN);
        }
        x.hand(INT, Check.UNKNOWN);
        x.hand(LONG, 0);
        CHECK.due("what is told may be as a refusal is", x.value(x.call(1, 0, ADD)), Check.UNKNOWN);
    }

    /** letterOf(): "Byte i of a text that a CALL answered; NONE." */
    private static void bytesOfAnAnswer() {
        CHECK.part("bytes of a text that was answered");
        for (int d = 0; d < 2; d++) {
            RemoteDesks x = twoDesks(Make.ECHO);
            Make.letters(x, "\u0000123456789abcde\u00ff");
            x.hand(TEXT, 0);
            x.call(d, 0, SAY);
            CHECK.due("not yet, or at once", x.letterOf(0, 15), d == 1 ? 255 : Check.NONE);
            Make.deliverAll(x);
            CHECK.due("the first", x.letterOf(0, 0), 0);
            CHECK.due("the last", x.letterOf(0, 15), 255);
            for (int i : new int[] {-1, 16, LEAST, GREATEST}) {
                CHECK.due("byte " + i, x.letterOf(0, i), Check.NONE);
            }
            x.hand(TEXT, 0);
            x.call(d, 0, SAY);
            Make.deliverAll(x);
            CHECK.due("an empty text", x.value(1), 0);
            CHECK.due("it has no byte", x.letterOf(1, 0), Check.NONE);
            x.hand(TEXT, -1);
            x.call(d, 0, SAY);
            Make.deliverAll(x);
            CHECK.due("no text", x.value(2), -1);
            CHECK.due("it has no byte", x.letterOf(2, 0), Check.NONE);
        }
    }

    /** tree(): "FAILURE i, what = 0 .. 4. With i = -1 (any what) how many it has"; "UNKNOWN (CALL, i), OUTSIDE". */
    private static void treeOfACall() {
        CHECK.part("tree");
        RemoteDesks x = new RemoteDesks();
        Make.describe(x, BOOK);
        x.desk();
        for (int i = 0; i < 12; i++) {
            x.failure(0, i, i - 1);
        }
        x.object(0, 0, Make.FAIL, 11, 0);
        x.call(0, 0, NIL);
        for (int what : new int[] {-1, 0, 4, 5, LEAST, GREATEST}) {
            CHECK.due("tree(0, -1, " + what + ")", x.tree(0, -1, what), 12);
        }
        for (int i : new int[] {-2, 12, 13, LEAST, GREATEST}) {
            CHECK.due("tree(0, " + i + ", 0)", x.tree(0, i, 0), Check.UNKNOWN);
            CHECK.due("tree(0, " + i + ", 5)", x.tree(0, i, 5), Check.UNKNOWN);
        }
        for (int what : new int[] {-1, 5, 6, LEAST, GREATEST}) {
            CHECK.due("tree(0, 0, " + what + ")", x.tree(0, 0, what), Check.OUTSIDE);
            CHECK.due("tree(0, 11, " + what + ")", x.tree(0, 11, what), Check.OUTSIDE);
        }
        CHECK.due("the first", x.tree(0, 0, 1), 11);
        CHECK.due("the last", x.tree(0, 11, 1), 0);
        CHECK.due("the last one's last", x.tree(0, 11, 4), 0);
    }

    /** about(): "what = 0 .. 5"; "UNKNOWN, OUTSIDE". */
    private static void aboutWhat() {
        CHECK.part("about");
        RemoteDesks x = twoDesks(Make.ECHO);
        x.supply(0, 3, 9);
        x.call(0, 0, NIL);
        x.carry(0, 1, 3, 9);
        x.call(1, 0, NIL);
        int[][] due = {{0, 0, 0, -1, 1, 0}, {0, -1, 3, -1, 1, 0}, {1, 0, 0, -1, 0, 0}};
        for (int c = 0; c < due.length; c++) {
            for (int what = 0; what < 6; what++) {
                CHECK.due("about(" + c + ", " + what + ")", x.about(c, what), due[c][what]);
            }
            for (int what : new int[] {-1, 6, LEAST, GREATEST}) {
                CHECK.due("about(" + c + ", " + what + ")", x.about(c, what), Check.OUTSIDE);
            }
        }
        x.through(0);
        x.through(0);
        CHECK.due("begun", x.about(0, 5), 1);
        CHECK.due("begun, of carry()", x.about(1, 5), 1);
        CHECK.due("where none was sent", x.about(2, 5), 0);
        x.restart(1);
        CHECK.due("not begun any more", x.about(0, 5) + x.about(1, 5), 0);
        x.tick(4);
        CHECK.due("sent twice", x.about(0, 4), 2);
    }

    /** "and again 4, 8, .. 32 units of time behind that .. at the 36th unit it is 3, if it is 0 then": by units of time and at once. */
    private static void unitsOfARequest() {
        CHECK.part("units of a request");
        for (int units = 0; units <= 45; units++) {
            RemoteDesks x = twoDesks(Make.ECHO);
            x.tick(7);
            x.call(0, 0, NIL);
            CHECK.due("tick", x.tick(units), 7 + units);
            int again = Math.min(8, units / 4);
            CHECK.due("sent by unit " + units, x.about(0, 4), 1 + again);
            CHECK.due("sent again", x.audit(0, 1), again);
            CHECK.due("slots", x.count(8), 1 + again);
            CHECK.due("state at unit " + units, x.state(0), units < 36 ? 0 : 3);
        }
    }

    /** An ANSWER at the 35th unit is in time, one at the 36th is not. */
    private static void answeredAtTheLastUnit() {
        CHECK.part("the last unit");
        for (int units = 35; units <= 36; units++) {
            RemoteDesks x = twoDesks(Make.ECHO);
            x.call(0, 0, NIL);
            x.through(0);
            x.tick(units);
            x.through(0);
            CHECK.due("state at unit " + units, x.state(0), units == 35 ? 1 : 3);
            CHECK.due("thanks all the same", x.slot(x.count(8) - 1, 1), 2);
            x.tick(100);
            CHECK.due("it stays", x.state(0), units == 35 ? 1 : 3);
        }
    }

    /** "each time while the CALL is 0". */
    private static void noneOnceItIsNotZero() {
        CHECK.part("while it is 0");
        for (int units = 0; units <= 36; units++) {
            RemoteDesks x = twoDesks(Make.ECHO);
            x.call(0, 0, NIL);
            x.through(0);
            x.tick(units);
            int sent = x.about(0, 4);
            x.through(0);
            x.tick(100);
            CHECK.due("not again behind unit " + units, x.about(0, 4), sent);
            CHECK.due("by then", sent, 1 + Math.min(8, units / 4));
        }
    }

    /** AGED and failed CALLS are not 0 either. */
    private static void agedIsNotSentAgain() {
        CHECK.part("aged or failed");
        RemoteDesks x = twoDesks(Make.ECHO);
        x.failure(0, 0, -1);
        x.object(1, 0, Make.FAIL, 0, 0);
        x.give(0, 1);
        x.call(0, 1, NIL);
        Make.deliverAll(x);
        x.restart(1);
        x.call(0, 0, NIL);
        Make.deliverAll(x);
        x.tick(100);
        CHECK.due("failed", x.state(0), 2);
        CHECK.due("aged", x.state(1), 4);
        CHECK.due("none again", x.audit(0, 1), 0);
        CHECK.due("no slot", x.count(8), 0);
    }

    /** A request to tell() in 3 parts: 3 + 1 + 4 * 17 bytes. */
    private static RemoteDesks threeParts() {
        RemoteDesks x = twoDesks(Make.ECHO);
        x.node(1);
        for (int f = 0; f < 4; f++) {
            Make.letters(x, "0123456789abcde" + f);
            x.set(0, f, 0);
        }
        x.hand(NODE + 1, 0);
        x.call(0, 0, TELL);
        CHECK.due("parts", x.count(8), 3);
        return x;
    }

    /** "When all PARTS of a REQUEST have come to the serving DESK, in any order, they are taken together". */
    private static void partsInEachOrder() {
        CHECK.part("parts in each order");
        int[][] orders = {{0, 0, 0}, {0, 1, 0}, {1, 0, 0}, {1, 1, 0}, {2, 0, 0}, {2, 1, 0}};
        for (int[] order : orders) {
            for (int[] back : orders) {
                RemoteDesks x = threeParts();
                for (int i = 0; i < 3; i++) {
                    CHECK.due("kept there", x.audit(1, 5), i);
                    CHECK.due("not begun", x.about(0, 5), 0);
                    x.through(order[i]);
                }
                CHECK.due("none is kept", x.audit(1, 5), 0);
                CHECK.due("the answer's parts", x.count(8), 3);
                for (int i = 0; i < 3; i++) {
                    CHECK.due("kept here", x.audit(0, 5), i);
                    x.through(back[i]);
                }
                CHECK.due("none is kept", x.audit(0, 5), 0);
                CHECK.due("value", x.value(0), 2);
                for (int f = 0; f < 4; f++) {
                    CHECK.due("its last byte", x.letterAt(2, f, 15), '0' + f);
                }
                CHECK.due("taken whole there", x.audit(1, 6), 1);
                CHECK.due("taken whole here", x.audit(0, 6), 1);
            }
        }
    }

    /** The greatest MESSAGE has 10 PARTS. */
    private static void tenPartsBackwards() {
        CHECK.part("10 parts backwards");
        RemoteDesks x = new RemoteDesks();
        Make.describe(x, "record r{long a;long b;long c;long d;long e;r n;}service s{r m(r,text,text);}");
        x.desk();
        x.desk();
        x.object(1, 0, Make.ECHO, 0, 0);
        x.give(0, 0);
        for (int i = 0; i < 5; i++) {
            x.node(0);
            for (int f = 0; f < 5; f++) {
                x.set(i, f, 100 * i + f);
            }
            x.set(i, 5, i - 1);
        }
        x.hand(NODE, 4);
        Make.letters(x, "0123456789abcdef");
        x.hand(TEXT, 0);
        Make.letters(x, "0123456789abc");
        x.hand(TEXT, 0);
        // 3 + 5 * 41 + 1 + 17 + 14 = 240 bytes
        x.call(0, 0, 0);
        CHECK.due("parts", x.count(8), 10);
        for (int i = 9; i > 0; i--) {
            x.through(i);
            CHECK.due("kept", x.audit(1, 5), 10 - i);
        }
        CHECK.due("not yet", x.count(5), 5);
        x.through(0);
        CHECK.due("all", x.count(5), 10);
        for (int i = 0; i < 5; i++) {
            for (int f = 0; f < 5; f++) {
                CHECK.due("field", x.field(5 + i, f), 100 * (4 - i) + f);
            }
            CHECK.due("the next one", x.field(5 + i, 5), i == 4 ? -1 : 6 + i);
        }
    }

    /** "A PART that is kept already changes nothing". */
    private static void aPartThatIsKept() {
        CHECK.part("a part that is kept already");
        RemoteDesks x = threeParts();
        for (int p = 0; p < 3; p++) {
            x.twice(p);
        }
        x.through(0);
        CHECK.due("part 0", x.audit(1, 5), 1);
        x.through(2);
        CHECK.due("part 0 again", x.audit(1, 5), 1);
        x.through(1);
        CHECK.due("part 2", x.audit(1, 5), 2);
        x.through(2);
        CHECK.due("part 2 again", x.audit(1, 5), 2);
        CHECK.due("not begun", x.about(0, 5), 0);
        x.through(0);
        CHECK.due("part 1", x.audit(1, 5), 0);
        CHECK.due("begun", x.about(0, 5), 1);
        x.through(0);
        CHECK.due("part 1 again: it is gathered anew", x.audit(1, 5), 1);
        CHECK.due("taken whole once", x.audit(1, 6), 1);
    }

    /** "when all are there they are taken, and gathered anew from then on". */
    private static void gatheredAnew() {
        CHECK.part("gathered anew");
        RemoteDesks x = threeParts();
        for (int p = 0; p < 3; p++) {
            x.twice(p);
        }
        x.through(0);
        x.through(0);
        x.through(0);
        CHECK.due("slots", x.count(8), 6);
        x.through(0);
        x.through(0);
        CHECK.due("two are kept", x.audit(1, 5), 2);
        CHECK.due("taken whole", x.audit(1, 6), 1);
        x.through(0);
        CHECK.due("none is kept", x.audit(1, 5), 0);
        CHECK.due("taken whole", x.audit(1, 6), 2);
        CHECK.due("the answer is sent again", x.count(8), 6);
        CHECK.due("one deed", x.told(0, 2), 1);
        Make.deliverAll(x);
        CHECK.due("the answer was taken twice", x.audit(0, 6), 2);
        CHECK.due("its value came once", x.count(5), 3);
    }

    /** "if it has an ANSWER .. on its SHELF, that is sent again; else if the CALL is BEGUN there, nothing happens; else .. AGED is sent". */
    private static void shelfThenBegunThenAge() {
        CHECK.part("shelf, begun, age");
        RemoteDesks x = twoDesks(Make.COUNT);
        x.hand(INT, 5);
        x.hand(LONG, 5);
        x.call(0, 0, ADD);
        for (int i = 0; i < 4; i++) {
            x.twice(0);
        }
        CHECK.due("begun: an answer", x.through(0), 5);
        CHECK.due("on the shelf: the answer again", x.through(0), 5);
        CHECK.due("their bytes", x.slot(3, 9), x.slot(4, 9));
        x.lose(4);
        x.through(3);
        CHECK.due("thanks are behind the requests", x.slot(3, 1), 2);
        x.through(3);
        CHECK.due("the shelf is empty", x.audit(1, 2), 0);
        CHECK.due("begun: nothing", x.through(0), 2);
        CHECK.due("begun: nothing", x.through(0), 1);
        x.restart(1);
        CHECK.due("another age: aged", x.through(0), 1);
        CHECK.due("it", x.slot(0, 5), 2);
        CHECK.due("taken whole", x.audit(1, 6), 5);
        CHECK.due("one deed", x.told(0, 3), 10);
        x.through(0);
        CHECK.due("the call stays answered", x.state(0), 1);
    }

    /** "else if the AGE in it is not the DESK's, AGED is sent". */
    private static void ageJustTheDesks() {
        CHECK.part("just its age");
        RemoteDesks x = twoDesks(Make.ECHO);
        for (int age = 0; age < 30; age++) {
            x.give(0, 0);
            x.call(0, 0, NIL);
            Make.deliverAll(x);
            CHECK.due("its age", x.state(2 * age), 1);
            x.restart(1);
            x.call(0, 0, NIL);
            CHECK.due("one less", x.slot(0, 7), age);
            Make.deliverAll(x);
            CHECK.due("aged", x.state(2 * age + 1), 4);
        }
        CHECK.due("deeds", x.told(0, 2), 30);
    }

    /** A row of nodes at the end of a full bench, and a call that takes it. */
    private static RemoteDesks rowOf(int nodes, int bench) {
        RemoteDesks x = twoDesks(Make.ECHO);
        for (int i = 0; i < bench; i++) {
            x.node(0);
        }
        for (int i = 1; i < nodes; i++) {
            x.set(i, 0, i - 1);
        }
        x.hand(NODE, nodes - 1);
        x.call(0, 0, PASS);
        while (x.slot(0, 1) == 0) {
            x.through(0);
        }
        return x;
    }

    /** "if NODES of the bench lack for them, none comes, no DEED is done, and it fails at once .. note 902, thrown there". */
    private static void argumentsJustFit() {
        CHECK.part("arguments just fit");
        for (int nodes = 1; nodes <= 12; nodes++) {
            RemoteDesks x = rowOf(nodes, 60 - nodes);
            CHECK.due(nodes + " just fit", x.count(5), 60);
            CHECK.due("a deed", x.told(0, 2), 1);
            RemoteDesks y = rowOf(nodes, 61 - nodes);
            CHECK.due("one lacks for " + nodes, y.count(5), 61 - nodes);
            CHECK.due("no deed", y.told(0, 2), 0);
            CHECK.due("begun all the same", y.about(0, 5), 1);
            CHECK.due("its answer is on the shelf", y.audit(1, 2), 1);
            Make.deliverAll(y);
            CHECK.due("state", y.state(0), 2);
            CHECK.due("size", y.tree(0, -1, 0), 1);
            int[] due = {0, 902, 1, 0, 0};
            for (int what = 0; what < due.length; what++) {
                CHECK.due("tree(0, 0, " + what + ")", y.tree(0, 0, what), due[what]);
            }
        }
    }

    /** On a full bench what has no NODES comes and goes. */
    private static void noNodesAreNeeded() {
        CHECK.part("no nodes are needed");
        RemoteDesks x = twoDesks(Make.ECHO);
        for (int i = 0; i < 60; i++) {
            x.node(0);
        }
        x.hand(NODE, -1);
        x.call(0, 0, PASS);
        Make.deliverAll(x);
        CHECK.due("state", x.state(0), 1);
        CHECK.due("value", x.value(0), -1);
        x.hand(NODE, 59);
        x.call(1, 0, PASS);
        CHECK.due("at its own desk they are not copied", x.value(1), 59);
    }

    /** "(if NODES lack for it: 2, a TREE of kind 0, note 903, thrown at this DESK)". */
    private static void valueJustFits() {
        CHECK.part("the value just fits");
        for (int nodes = 1; nodes <= 12; nodes++) {
            RemoteDesks x = rowOf(nodes, 60 - 2 * nodes);
            Make.deliverAll(x);
            CHECK.due(nodes + " just fit", x.count(5), 60);
            CHECK.due("state", x.state(0), 1);
            CHECK.due("value", x.value(0), 60 - nodes);
            RemoteDesks y = rowOf(nodes, 61 - 2 * nodes);
            Make.deliverAll(y);
            CHECK.due("one lacks for " + nodes, y.count(5), 61 - nodes);
            CHECK.due("state", y.state(0), 2);
            CHECK.due("size", y.tree(0, -1, 0), 1);
            int[] due = {0, 903, 0, 0, 0};
            for (int what = 0; what < due.length; what++) {
                CHECK.due("tree(0, 0, " + what + ")", y.tree(0, 0, what), due[what]);
            }
            CHECK.due("thanks came", y.audit(1, 2), 0);
        }
    }

    /** "THANKS that arrive take the ANSWER off the SHELF (the CALL stays BEGUN)": those that come again find none. */
    private static void thanksTwice() {
        CHECK.part("thanks twice");
        RemoteDesks x = twoDesks(Make.ECHO);
        x.call(0, 0, NIL);
        x.call(0, 0, NIL);
        x.through(0);
        x.through(0);
        CHECK.due("two on the shelf", x.audit(1, 2), 2);
        x.through(0);
        x.twice(1);
        CHECK.due("thanks", x.through(1), 2);
        CHECK.due("one on the shelf", x.audit(1, 2), 1);
        CHECK.due("thanks again", x.through(1), 1);
        CHECK.due("the other stays", x.audit(1, 2), 1);
        CHECK.due("both stay begun", x.audit(1, 4), 2);
        CHECK.due("thanks are not counted", x.audit(1, 6), 2);
    }

    /** After a restart there is nothing to take off. */
    private static void thanksToADeskThatStartedAnew() {
        CHECK.part("thanks behind a restart");
        RemoteDesks x = twoDesks(Make.ECHO);
        x.call(0, 0, NIL);
        x.through(0);
        x.through(0);
        x.restart(1);
        CHECK.due("no shelf", x.audit(1, 2), 0);
        CHECK.due("thanks", x.through(0), 0);
        CHECK.due("no shelf", x.audit(1, 2), 0);
        CHECK.due("not begun", x.about(0, 5), 0);
        CHECK.due("state", x.state(0), 1);
    }

    /** restart(): "its AGE. UNKNOWN, FULL (AGE 200)". */
    private static void agesUpTo200() {
        CHECK.part("age 200");
        RemoteDesks x = twoDesks(Make.ECHO);
        for (int d : new int[] {-1, 2, 8, LEAST, GREATEST}) {
            CHECK.due("restart(" + d + ")", x.restart(d), Check.UNKNOWN);
        }
        for (int age = 1; age <= 200; age++) {
            CHECK.due("restart", x.restart(0), age);
        }
        x.call(0, 0, NIL);
        CHECK.due("one more", x.restart(0), Check.FULL);
        CHECK.due("what is refused changes nothing", x.state(0), 0);
        CHECK.due("age", x.audit(0, 3), 200);
        CHECK.due("the other", x.audit(1, 3), 0);
        CHECK.due("the other starts anew", x.restart(1), 1);
    }

    /** restart(): "CALLS that it made and that are 0 are 5"; others stay as they are. */
    private static void restartOfWhatIsNotZero() {
        CHECK.part("restart of calls of each state");
        RemoteDesks x = states();
        x.give(1, 0);
        x.restart(0);
        int[] due = {1, 1, 2, 1, 3, 4, 5, 5};
        for (int i = 0; i < due.length; i++) {
            CHECK.due("state(" + i + ")", x.state(i), due[i]);
        }
        CHECK.due("what it failed with stays", x.tree(2, 0, 1), 7);
        CHECK.due("slots stay", x.count(8), 2);
        Make.deliverAll(x);
        x.tick(100);
        CHECK.due("forgotten", x.state(7), 5);
        CHECK.due("its deed was done", x.about(7, 5), 1);
    }

    /** tick(): "n units of time pass (0 .. 100) .. in all how many passed. OUTSIDE." */
    private static void unitsOfTime() {
        CHECK.part("units of time");
        RemoteDesks x = twoDesks(Make.ECHO);
        x.call(0, 0, NIL);
        for (int n : new int[] {-1, -2, 101, 102, LEAST, GREATEST}) {
            CHECK.due("tick(" + n + ")", x.tick(n), Check.OUTSIDE);
        }
        CHECK.due("none passed", x.count(9), 0);
        CHECK.due("none was sent again", x.about(0, 4), 1);
        CHECK.due("tick(0)", x.tick(0), 0);
        CHECK.due("tick(1)", x.tick(1), 1);
        CHECK.due("tick(100)", x.tick(100), 101);
        CHECK.due("given up", x.state(0), 3);
        CHECK.due("tick(0)", x.tick(0), 101);
        for (int i = 1; i <= 100; i++) {
            x.tick(100);
        }
        CHECK.due("count", x.count(9), 10101);
        x.call(0, 0, NIL);
        x.tick(35);
        CHECK.due("a call as late as that", x.state(1), 0);
        x.tick(1);
        CHECK.due("a call as late as that", x.state(1), 3);
    }

    /** audit(): "what = 0 .. 6"; "UNKNOWN, OUTSIDE". */
    private static void auditWhat() {
        CHECK.part("audit");
        RemoteDesks x = twoDesks(Make.ECHO);
        for (int what = 0; what <= 6; what++) {
            CHECK.due("audit(0, " + what + ")", x.audit(0, what), 0);
            CHECK.due("audit(2, " + what + ")", x.audit(2, what), Check.UNKNOWN);
        }
        for (int what : new int[] {-1, 7, 8, LEAST, GREATEST}) {
            CHECK.due("audit(1, " + what + ")", x.audit(1, what), Check.OUTSIDE);
            CHECK.due("audit(-1, " + what + ")", x.audit(-1, what), Check.UNKNOWN);
        }
        for (int d : WILD) {
            CHECK.due("audit(" + d + ", 0)", x.audit(d, 0), Check.UNKNOWN);
        }
        x.call(0, 0, NIL);
        x.tick(4);
        x.through(0);
        x.through(0);
        x.through(0);
        int[][] due = {{3, 1, 0, 0, 0, 0, 1}, {2, 0, 1, 0, 1, 0, 2}};
        for (int d = 0; d < 2; d++) {
            for (int what = 0; what <= 6; what++) {
                CHECK.due("audit(" + d + ", " + what + ")", x.audit(d, what), due[d][what]);
            }
        }
    }
}
