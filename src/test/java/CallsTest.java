/** Calls to other desks (part 7): time, parts that come, the shelf, restarts; promises 23 to 28 and 33 to 35. */
public final class CallsTest {
    private static final Check CHECK = new Check();
    private static final int INT = 0;
    private static final int ADD = 0, PASS = 5, NIL = 7;

    public static void main(String[] args) {
        repeats();
        repeatsStop();
        repeatsBySeveral();
        tickRefusals();
        shelf();
        thanksForEach();
        lateAnswer();
        partsInAnyOrder();
        partsOfAnswers();
        partsAtACallerThatStartsAnew();
        otherNumberOfParts();
        aged();
        agedIsNotKept();
        restartOfServer();
        restartOfCaller();
        restartRefusals();
        argumentsLack();
        valueLacks();
        auditRefusals();
        CHECK.end();
    }

    /** Desk 1 hosts object 0 of the service plain; desk 0 holds it. */
    private static RemoteDesks twoDesks(int deed) {
        RemoteDesks x = Make.withDesks(2);
        x.object(1, 0, deed, 0, 0);
        x.give(0, 0);
        return x;
    }

    private static int callAdd(RemoteDesks x, int a, int b) {
        x.hand(INT, a);
        x.hand(INT, b);
        return x.call(0, 0, ADD);
    }

    private static void repeats() {
        CHECK.part("a request again and again");
        RemoteDesks x = twoDesks(Make.ECHO);
        x.tick(3);
        CHECK.due("call", callAdd(x, 1, 2), 0);
        for (int unit = 1; unit <= 35; unit++) {
            CHECK.due("tick", x.tick(1), 3 + unit);
            CHECK.due("slots at " + unit, x.count(8), 1 + Math.min(8, unit / 4));
            CHECK.due("sent", x.about(0, 4), 1 + Math.min(8, unit / 4));
            CHECK.due("again", x.audit(0, 1), Math.min(8, unit / 4));
            CHECK.due("slots sent", x.audit(0, 0), 1 + Math.min(8, unit / 4));
            CHECK.due("state", x.state(0), 0);
        }
        CHECK.due("tick", x.tick(1), 39);
        CHECK.due("state", x.state(0), 3);
        CHECK.due("slots", x.count(8), 9);
        CHECK.due("tick", x.tick(100), 139);
        CHECK.due("slots", x.count(8), 9);
        CHECK.due("state", x.state(0), 3);
        CHECK.due("value", x.value(0), Check.NONE);
        CHECK.due("tree", x.tree(0, -1, 0), 0);
        CHECK.due("the other desk sent none", x.audit(1, 0), 0);
    }

    private static void repeatsStop() {
        CHECK.part("no request of a call that is answered");
        RemoteDesks x = twoDesks(Make.ECHO);
        callAdd(x, 1, 2);
        x.tick(4);
        CHECK.due("slots", x.count(8), 2);
        Make.deliverAll(x);
        CHECK.due("state", x.state(0), 1);
        x.tick(40);
        CHECK.due("slots", x.count(8), 0);
        CHECK.due("sent", x.about(0, 4), 2);
        CHECK.due("state", x.state(0), 1);
        CHECK.due("begun once", x.told(0, 2), 1);
    }

    private static void repeatsBySeveral() {
        CHECK.part("calls are asked by their numbers");
        RemoteDesks x = twoDesks(Make.ECHO);
        callAdd(x, 1, 1);
        x.tick(2);
        callAdd(x, 2, 2);
        x.tick(2);
        CHECK.due("slots", x.count(8), 3);
        x.tick(2);
        CHECK.due("slots", x.count(8), 4);
        int[] due = {0, 1, 0, 1};
        for (int i = 0; i < due.length; i++) {
            CHECK.due("slot " + i, x.slot(i, 2), due[i]);
        }
        x.tick(30);
        CHECK.due("the first is given up", x.state(0), 3);
        CHECK.due("the second is not", x.state(1), 0);
        x.tick(2);
        CHECK.due("the second is", x.state(1), 3);
        RemoteDesks y = twoDesks(Make.ECHO);
        callAdd(y, 1, 1);
        callAdd(y, 1, 1);
        y.tick(100);
        CHECK.due("slots", y.count(8), 18);
        for (int i = 0; i < 18; i++) {
            CHECK.due("slot " + i, y.slot(i, 2), i % 2);
        }
    }

    private static void tickRefusals() {
        CHECK.part("tick");
        RemoteDesks x = new RemoteDesks();
        CHECK.due("tick(0)", x.tick(0), 0);
        CHECK.due("tick(-1)", x.tick(-1), Check.OUTSIDE);
        CHECK.due("tick(101)", x.tick(101), Check.OUTSIDE);
        CHECK.due("tick(100)", x.tick(100), 100);
        CHECK.due("tick(1)", x.tick(1), 101);
        CHECK.due("tick(0)", x.tick(0), 101);
        CHECK.due("count(9)", x.count(9), 101);
    }

    private static void shelf() {
        CHECK.part("the shelf");
        RemoteDesks x = twoDesks(Make.COUNT);
        callAdd(x, 3, 4);
        x.tick(8);
        CHECK.due("slots", x.count(8), 3);
        CHECK.due("not begun", x.about(0, 5), 0);
        x.through(0);
        CHECK.due("begun", x.about(0, 5), 1);
        CHECK.due("begun there", x.audit(1, 4), 1);
        CHECK.due("shelf", x.audit(1, 2), 1);
        CHECK.due("not at the caller", x.audit(0, 2) + x.audit(0, 4), 0);
        CHECK.due("took", x.audit(1, 6), 1);
        x.through(0);
        CHECK.due("the answer is sent again", x.count(8), 3);
        CHECK.due("took", x.audit(1, 6), 2);
        CHECK.due("sent by 1", x.audit(1, 0), 2);
        CHECK.due("once", x.told(0, 2), 1);
        x.through(1);
        CHECK.due("state", x.state(0), 1);
        CHECK.due("took", x.audit(0, 6), 1);
        CHECK.due("shelf", x.audit(1, 2), 1);
        // request, answer, thanks
        x.through(2);
        CHECK.due("thanks take it off", x.audit(1, 2), 0);
        CHECK.due("it stays begun", x.about(0, 5), 1);
        CHECK.due("begun there", x.audit(1, 4), 1);
        CHECK.due("thanks are not counted", x.audit(1, 6), 2);
        CHECK.due("a request behind thanks", x.through(0), 1);
        CHECK.due("took", x.audit(1, 6), 3);
        CHECK.due("nothing happens", x.told(0, 2), 1);
        CHECK.due("no answer more", x.audit(1, 0), 2);
        CHECK.due("total", x.told(0, 3), 7);
    }

    private static void thanksForEach() {
        CHECK.part("thanks for each answer");
        RemoteDesks x = twoDesks(Make.COUNT);
        callAdd(x, 3, 4);
        x.through(0);
        x.twice(0);
        x.through(0);
        CHECK.due("slots", x.count(8), 2);
        CHECK.due("thanks", x.slot(1, 1), 2);
        x.through(0);
        CHECK.due("slots", x.count(8), 2);
        CHECK.due("thanks", x.slot(1, 1), 2);
        CHECK.due("took", x.audit(0, 6), 2);
        CHECK.due("sent", x.audit(0, 0), 3);
        Make.deliverAll(x);
        CHECK.due("shelf", x.audit(1, 2), 0);
        CHECK.due("value", x.value(0), 7);
    }

    private static void lateAnswer() {
        CHECK.part("an answer that comes late");
        RemoteDesks x = twoDesks(Make.ECHO);
        x.node(0);
        x.hand(Make.PAIR, 0);
        x.call(0, 0, PASS);
        x.through(0);
        x.through(0);
        CHECK.due("the answer's parts", x.count(8), 2);
        x.tick(36);
        CHECK.due("state", x.state(0), 3);
        CHECK.due("nodes", x.count(5), 2);
        x.through(0);
        x.through(0);
        CHECK.due("state", x.state(0), 3);
        CHECK.due("its value did not come", x.count(5), 2);
        CHECK.due("took", x.audit(0, 6), 1);
        CHECK.due("thanks", x.slot(x.count(8) - 1, 1), 2);
    }

    private static void partsInAnyOrder() {
        CHECK.part("parts in any order");
        RemoteDesks x = twoDesks(Make.ECHO);
        x.node(0);
        x.node(0);
        x.set(0, 5, 1);
        Make.letters(x, "0123456789abcdef");
        x.set(0, 4, 0);
        x.hand(Make.PAIR, 0);
        x.call(0, 0, PASS);
        // 3 + 39 + 23 + 1: three parts
        CHECK.due("parts", x.count(8), 3);
        x.twice(2);
        CHECK.due("the last one", x.through(2), 3);
        CHECK.due("kept", x.audit(1, 5), 1);
        CHECK.due("again", x.through(2), 2);
        CHECK.due("kept", x.audit(1, 5), 1);
        CHECK.due("not at the caller", x.audit(0, 5), 0);
        CHECK.due("the first", x.through(0), 1);
        CHECK.due("kept", x.audit(1, 5), 2);
        CHECK.due("not yet", x.told(0, 2), 0);
        CHECK.due("took none", x.audit(1, 6), 0);
        x.twice(0);
        CHECK.due("the middle one", x.through(0), 4);
        CHECK.due("kept", x.audit(1, 5), 0);
        CHECK.due("now", x.told(0, 2), 1);
        CHECK.due("took one", x.audit(1, 6), 1);
        CHECK.due("nodes", x.count(5), 4);
        CHECK.due("its text", x.field(2, 4), 16);
        CHECK.due("its text", x.letterAt(2, 4, 15), 'f');
        // gathered anew
        x.through(0);
        CHECK.due("kept anew", x.audit(1, 5), 1);
        x.tick(4);
        CHECK.due("slots", x.count(8), 6);
        x.through(3);
        x.through(4);
        CHECK.due("kept", x.audit(1, 5), 0);
        CHECK.due("took two", x.audit(1, 6), 2);
        CHECK.due("once", x.told(0, 2), 1);
        CHECK.due("the answer again", x.audit(1, 0), 6);
    }

    private static void partsOfAnswers() {
        CHECK.part("parts of answers");
        RemoteDesks x = twoDesks(Make.ECHO);
        x.node(0);
        x.hand(Make.PAIR, 0);
        x.call(0, 0, PASS);
        x.through(0);
        x.through(0);
        x.through(1);
        CHECK.due("kept at the caller", x.audit(0, 5), 1);
        CHECK.due("not at the server", x.audit(1, 5), 0);
        CHECK.due("state", x.state(0), 0);
        CHECK.due("no thanks yet", x.count(8), 1);
        x.restart(1);
        CHECK.due("kept at the caller", x.audit(0, 5), 1);
        x.through(0);
        CHECK.due("kept", x.audit(0, 5), 0);
        CHECK.due("state", x.state(0), 1);
        CHECK.due("thanks", x.slot(0, 1), 2);
    }

    private static void partsAtACallerThatStartsAnew() {
        CHECK.part("parts of an answer at a desk that starts anew");
        RemoteDesks x = twoDesks(Make.ECHO);
        x.node(0);
        x.hand(Make.PAIR, 0);
        x.call(0, 0, PASS);
        x.through(0);
        x.through(0);
        x.through(0);
        CHECK.due("kept", x.audit(0, 5), 1);
        x.restart(0);
        CHECK.due("gone", x.audit(0, 5), 0);
        x.through(0);
        CHECK.due("the other one is kept", x.audit(0, 5), 1);
        CHECK.due("no thanks", x.count(8), 0);
        CHECK.due("it took none", x.audit(0, 6), 0);
    }

    private static void otherNumberOfParts() {
        CHECK.part("another number of parts");
        RemoteDesks x = twoDesks(Make.ECHO);
        x.node(0);
        x.hand(Make.PAIR, 0);
        x.call(0, 0, PASS);
        x.through(0);
        x.through(0);
        x.through(0);
        CHECK.due("kept", x.audit(0, 5), 1);
        x.restart(1);
        x.tick(4);
        // the second part of the answer; the request again
        x.through(1);
        x.through(1);
        CHECK.due("aged", x.slot(1, 5), 2);
        x.through(1);
        CHECK.due("state", x.state(0), 4);
        CHECK.due("those kept are dropped", x.audit(0, 5), 0);
        x.through(0);
        CHECK.due("gathered anew", x.audit(0, 5), 1);
        CHECK.due("took", x.audit(0, 6), 1);
        CHECK.due("state", x.state(0), 4);
    }

    private static void aged() {
        CHECK.part("aged");
        RemoteDesks x = twoDesks(Make.ECHO);
        x.restart(1);
        callAdd(x, 1, 2);
        CHECK.due("the age it knows", x.slot(0, 7), 0);
        x.through(0);
        CHECK.due("answer", x.slot(0, 1), 1);
        CHECK.due("aged", x.slot(0, 5), 2);
        CHECK.due("no more", x.slot(0, 6), Check.NONE);
        CHECK.due("not begun", x.about(0, 5), 0);
        CHECK.due("no deed", x.told(0, 2), 0);
        x.through(0);
        CHECK.due("state", x.state(0), 4);
        CHECK.due("thanks", x.slot(0, 1), 2);
        CHECK.due("value", x.value(0), Check.NONE);
        CHECK.due("tree", x.tree(0, -1, 0), 0);
        x.through(0);
        x.tick(40);
        CHECK.due("state", x.state(0), 4);
        CHECK.due("slots", x.count(8), 0);
        x.give(0, 0);
        callAdd(x, 1, 2);
        CHECK.due("the age it knows", x.slot(0, 7), 1);
        Make.deliverAll(x);
        CHECK.due("state", x.state(1), 1);
        x.restart(0);
        callAdd(x, 1, 2);
        Make.deliverAll(x);
        CHECK.due("the caller's age does not count", x.state(2), 1);
    }

    private static void agedIsNotKept() {
        CHECK.part("aged is not kept");
        RemoteDesks x = twoDesks(Make.ECHO);
        x.restart(1);
        callAdd(x, 1, 2);
        x.twice(0);
        x.through(0);
        CHECK.due("shelf", x.audit(1, 2), 0);
        CHECK.due("begun", x.audit(1, 4), 0);
        x.through(0);
        CHECK.due("sent twice", x.audit(1, 0), 2);
        CHECK.due("aged", x.slot(1, 5), 2);
    }

    private static void restartOfServer() {
        CHECK.part("restart of the serving desk");
        RemoteDesks x = twoDesks(Make.COUNT);
        callAdd(x, 1, 2);
        x.through(0);
        CHECK.due("shelf", x.audit(1, 2), 1);
        x.node(0);
        x.hand(Make.PAIR, 0);
        x.call(0, 0, PASS);
        x.through(1);
        CHECK.due("kept", x.audit(1, 5), 1);
        CHECK.due("restart", x.restart(1), 1);
        CHECK.due("age", x.audit(1, 3), 1);
        CHECK.due("shelf", x.audit(1, 2), 0);
        CHECK.due("begun", x.audit(1, 4), 0);
        CHECK.due("begun", x.about(0, 5), 0);
        CHECK.due("kept", x.audit(1, 5), 0);
        CHECK.due("slots stay", x.count(8), 2);
        CHECK.due("the total stays", x.told(0, 3), 3);
        CHECK.due("state", x.state(0), 0);
        x.tick(4);
        // the answer, a part, then the requests again
        CHECK.due("slots", x.count(8), 5);
        x.through(2);
        CHECK.due("aged", x.slot(4, 5), 2);
        CHECK.due("once", x.told(0, 2), 1);
        x.through(0);
        CHECK.due("the answer came first", x.state(0), 1);
        CHECK.due("value", x.value(0), 3);
    }

    private static void restartOfCaller() {
        CHECK.part("restart of the calling desk");
        RemoteDesks x = twoDesks(Make.COUNT);
        x.object(0, 0, Make.COUNT, 0, 0);
        x.give(1, 1);
        callAdd(x, 1, 2);
        callAdd(x, 3, 4);
        x.through(0);
        x.through(1);
        // request 1, thanks 0
        CHECK.due("state", x.state(0), 1);
        CHECK.due("restart", x.restart(0), 1);
        CHECK.due("answered stays", x.state(0), 1);
        CHECK.due("forgotten", x.state(1), 5);
        CHECK.due("value", x.value(1), Check.NONE);
        CHECK.due("it holds what it held", x.reference(0, 0), 0);
        x.tick(40);
        CHECK.due("not sent again", x.about(1, 4), 1);
        CHECK.due("state", x.state(1), 5);
        Make.deliverAll(x);
        CHECK.due("its deed is done", x.told(0, 3), 10);
        CHECK.due("state", x.state(1), 5);
        CHECK.due("thanks came", x.audit(1, 2), 0);
        CHECK.due("others know the age they knew", x.reference(1, 1), 0);
        CHECK.due("the other desk's age", x.audit(1, 3), 0);
    }

    private static void restartRefusals() {
        CHECK.part("restart");
        RemoteDesks x = Make.withDesks(1);
        CHECK.due("desk 1", x.restart(1), Check.UNKNOWN);
        CHECK.due("desk -1", x.restart(-1), Check.UNKNOWN);
        for (int age = 1; age <= 200; age++) {
            CHECK.due("restart", x.restart(0), age);
        }
        CHECK.due("restart 201", x.restart(0), Check.FULL);
        CHECK.due("age", x.audit(0, 3), 200);
        x.desk();
        x.object(0, 0, Make.ECHO, 0, 0);
        CHECK.due("give", x.give(1, 0), 200);
        x.hand(INT, 1);
        x.hand(INT, 2);
        x.call(1, 0, ADD);
        CHECK.due("age in the request", x.slot(0, 7), 200);
        Make.deliverAll(x);
        CHECK.due("state", x.state(0), 1);
    }

    private static void argumentsLack() {
        CHECK.part("nodes lack for the arguments");
        RemoteDesks x = Make.withDesks(3);
        x.object(1, 1, Make.RAISE, 0, 0);
        x.object(2, 0, Make.ECHO, 0, 0);
        x.give(0, 0);
        for (int i = 0; i < 58; i++) {
            x.node(i == 0 ? 1 : 0);
        }
        x.set(0, 0, 1);
        x.set(0, 1, 1);
        x.set(1, 5, 2);
        x.hand(Make.BOX, 0);
        x.call(0, 0, 0);
        while (x.count(8) > 0 && x.slot(0, 1) == 0) {
            x.through(0);
        }
        CHECK.due("none came", x.count(5), 58);
        CHECK.due("no reference", x.reference(1, 1), Check.NONE);
        CHECK.due("no deed", x.told(0, 2), 0);
        CHECK.due("begun", x.about(0, 5), 1);
        CHECK.due("shelf", x.audit(1, 2), 1);
        Make.deliverAll(x);
        CHECK.due("state", x.state(0), 2);
        int[] due = {0, 902, 1, 0, 0};
        for (int what = 0; what < 5; what++) {
            CHECK.due("tree(0, 0, " + what + ")", x.tree(0, 0, what), due[what]);
        }
        CHECK.due("size", x.tree(0, -1, 0), 1);
        x.set(0, 1, 2);
        x.hand(Make.BOX, 0);
        x.call(0, 0, 0);
        while (x.count(8) > 0 && x.slot(0, 1) == 0) {
            x.through(0);
        }
        CHECK.due("two came", x.count(5), 60);
        CHECK.due("a reference", x.reference(1, 1), 0);
        CHECK.due("a deed", x.told(0, 2), 1);
        CHECK.due("raised", x.field(58, 2), 1);
        Make.deliverAll(x);
        CHECK.due("nodes lack for the value", x.state(1), 2);
        CHECK.due("note", x.tree(1, 0, 1), 903);
    }

    private static void valueLacks() {
        CHECK.part("nodes lack for the value");
        RemoteDesks x = Make.withDesks(3);
        x.object(1, 1, Make.ECHO, 0, 0);
        x.object(2, 0, Make.ECHO, 0, 0);
        x.give(0, 0);
        for (int i = 0; i < 57; i++) {
            x.node(i == 0 ? 1 : 0);
        }
        x.set(0, 0, 1);
        x.set(0, 1, 1);
        x.hand(Make.BOX, 0);
        x.call(0, 0, 0);
        Make.deliverAll(x);
        CHECK.due("state", x.state(0), 2);
        int[] due = {0, 903, 0, 0, 0};
        for (int what = 0; what < 5; what++) {
            CHECK.due("tree(0, 0, " + what + ")", x.tree(0, 0, what), due[what]);
        }
        CHECK.due("size", x.tree(0, -1, 0), 1);
        CHECK.due("value", x.value(0), Check.NONE);
        CHECK.due("two came with the request", x.count(5), 59);
        CHECK.due("a reference there", x.reference(1, 1), 0);
        CHECK.due("none here", x.reference(0, 1), Check.NONE);
        CHECK.due("thanks came", x.audit(1, 2), 0);
    }

    private static void auditRefusals() {
        CHECK.part("audit");
        RemoteDesks x = Make.withDesks(1);
        CHECK.due("desk 1", x.audit(1, 0), Check.UNKNOWN);
        CHECK.due("desk -1", x.audit(-1, 9), Check.UNKNOWN);
        CHECK.due("what -1", x.audit(0, -1), Check.OUTSIDE);
        CHECK.due("what 7", x.audit(0, 7), Check.OUTSIDE);
        CHECK.due("what 6", x.audit(0, 6), 0);
    }
}
