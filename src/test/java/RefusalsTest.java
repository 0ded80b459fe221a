import java.util.ArrayList;
import java.util.List;
import java.util.function.Supplier;
import java.util.function.ToLongFunction;

/**
 * "REFUSALS, of several the first in this order: UNKNOWN, OUTSIDE, NOT, FULL. What is refused changes nothing."
 * Each call that is refused, or only looks, is made on an object in the midst of much; all that can be seen of it, then and
 * later on, is held against another such object on which the call was not made. No object is used for more than 512 calls.
 */
public final class RefusalsTest {
    private static final Check CHECK = new Check();
    private static final int INT = 0, LONG = 1, BOOLEAN = 3, TEXT = 4;
    private static final int UNKNOWN = Check.UNKNOWN, OUTSIDE = Check.OUTSIDE, NOT = Check.NOT, FULL = Check.FULL;
    private static final int LEAST = Integer.MIN_VALUE, GREATEST = Integer.MAX_VALUE;
    private static final int PAGE = 240;
    /** Everything that can be looked at in a midst(), and what comes of it. */
    private static final List<ToLongFunction<RemoteDesks>> LOOKS = looks();

    private static int refusals;

    public static void main(String[] args) {
        inTheMidst();
        theBook();
        values();
        objects();
        failures();
        references();
        calls();
        slots();
        stocks();
        looking();
        theBench();
        theTape();
        anAge();
        CHECK.due("refusals that were tried", refusals > 150 ? 1 : 0, 1);
        CHECK.end();
    }

    /** Some of all: a tape, letters, a hand, nodes, failures, relays that wait, shelves, parts that are kept, stocks that are moved. */
    private static RemoteDesks midst() {
        RemoteDesks x = Make.withDesks(4);
        x.feed(0x20202020, 0x20202020, 0x20202020, 0x20202020, 0x20202020);
        x.failure(1, 10, -1);
        x.failure(3, 11, 0);
        x.failure(2, 12, 1);
        x.beside(2, 0);
        for (int i = 0; i < 6; i++) {
            x.node(i % 3 == 2 ? 1 : 0);
        }
        x.set(0, 5, 1);
        x.set(1, 5, 0);
        x.set(2, 1, 0);
        x.object(0, 0, Make.COUNT, 0, 0);
        x.object(1, 0, Make.ECHO, 0, 0);
        x.object(1, 0, Make.RELAY, 0, 0);
        x.object(2, 0, Make.FAIL, 2, 0);
        x.object(3, 1, Make.KEEP, 0, 0);
        x.set(2, 0, 1);
        x.restart(0);
        x.restart(1);
        x.give(1, 0);
        x.give(2, 1);
        x.give(2, 2);
        x.give(3, 3);
        x.knows(3, 3, false);
        x.call(3, 3, 7);
        Make.deliverAll(x);
        add(x, 2, 2);
        x.through(0);
        pass(x);
        pass(x);
        x.through(1);
        add(x, 1, 2);
        x.supply(0, 1, 500);
        x.supply(2, 1, 500);
        x.carry(0, 3, 1, 20);
        x.carry(2, 0, 1, 30);
        x.through(x.count(8) - 1);
        x.tick(3);
        x.letter('x');
        x.letter('y');
        x.hand(INT, 4);
        x.hand(LONG, 5);
        return x;
    }

    /** There is something of each, so that a change would be seen. */
    private static void inTheMidst() {
        CHECK.part("in the midst");
        RemoteDesks x = midst();
        CHECK.due("tape", x.cut(20), 0);
        CHECK.due("slots", x.count(8) > 0 ? 1 : 0, 1);
        CHECK.due("shelves", x.audit(0, 2) + x.audit(1, 2), 1);
        CHECK.due("parts that are kept", x.audit(1, 5), 1);
        CHECK.due("begun", x.audit(0, 4) + x.audit(1, 4), 2);
        CHECK.due("a relay that waits", x.state(x.about(2, 3)) + x.state(2), 0);
        CHECK.due("failed", x.state(0), 2);
        CHECK.due("size", x.tree(0, -1, 0), 4);
        CHECK.due("moved", x.stock(-1, 1), 20);
        CHECK.due("letters", x.letter('z'), 3);
        CHECK.due("hand", x.open(), 2);
        CHECK.due("objects that are held", x.told(0, 1) + x.told(1, 1) + x.told(2, 1) + x.told(3, 1), 4);
    }

    private static void add(RemoteDesks x, int desk, int object) {
        x.hand(INT, 1);
        x.hand(INT, 2);
        x.call(desk, object, 0);
    }

    private static void pass(RemoteDesks x) {
        x.hand(Make.PAIR, 0);
        x.call(2, 1, 5);
    }

    private static List<ToLongFunction<RemoteDesks>> looks() {
        List<ToLongFunction<RemoteDesks>> all = new ArrayList<>();
        for (int i = 0; i <= 10; i++) {
            int what = i;
            all.add(x -> x.count(what));
        }
        for (int i = 0; i < 20; i++) {
            int n = i;
            for (int f = 0; f < 6; f++) {
                int field = f;
                all.add(x -> x.field(n, field));
            }
            all.add(x -> x.letterAt(n, 4, 0));
        }
        looksAtObjects(all);
        looksAtCalls(all);
        for (int i = 0; i < 20; i++) {
            int n = i;
            for (int k = 0; k < 29; k++) {
                int at = k;
                all.add(x -> x.slot(n, at));
            }
        }
        looksAhead(all);
        return all;
    }

    private static void looksAtObjects(List<ToLongFunction<RemoteDesks>> all) {
        for (int i = 0; i < 6; i++) {
            int n = i;
            for (int k = 0; k < 7; k++) {
                int what = k;
                all.add(x -> x.told(n, what));
                all.add(x -> x.audit(n, what));
            }
            for (int k = 0; k < 4; k++) {
                int other = k;
                all.add(x -> x.reference(other, n));
                all.add(x -> x.stock(n - 1, other));
            }
        }
    }

    private static void looksAtCalls(List<ToLongFunction<RemoteDesks>> all) {
        for (int i = 0; i < 12; i++) {
            int n = i;
            all.add(x -> x.state(n));
            all.add(x -> x.value(n));
            all.add(x -> x.letterOf(n, 0));
            for (int k = 0; k < 6; k++) {
                int what = k;
                all.add(x -> x.about(n, what));
                all.add(x -> x.tree(n, what - 1, 0));
                all.add(x -> x.tree(n, what - 1, 4));
            }
        }
    }

    /** What can be seen only by going on; these change what they look at, so each stands for itself. */
    private static void looksAhead(List<ToLongFunction<RemoteDesks>> all) {
        all.add(x -> x.open());
        all.add(x -> x.letter('z'));
        all.add(x -> x.cut(0));
        all.add(x -> x.place());
        all.add(x -> x.desk());
        all.add(x -> x.node(0));
        all.add(x -> x.object(0, 0, 0, 0, 0));
        all.add(x -> x.failure(0, 0, 2));
        all.add(x -> x.beside(2, 1));
        all.add(x -> x.knows(3, 3, true));
        all.add(x -> x.knows(3, 2, true));
        all.add(x -> x.tick(1));
        all.add(x -> x.count(8));
        for (int i = 0; i < 30; i++) {
            all.add(x -> x.through(0));
        }
        all.add(x -> x.tick(40));
        for (int i = 0; i < 12; i++) {
            int n = i;
            all.add(x -> x.state(n));
            all.add(x -> x.value(n));
        }
        for (int i = 0; i < 6; i++) {
            int n = i;
            for (int k = 0; k < 7; k++) {
                int what = k;
                all.add(x -> x.audit(n, what));
                all.add(x -> x.told(n, what));
            }
        }
    }

    /** Compares an object on which the call is made with one on which it is not. */
    private static void changesNothing(String name, Supplier<RemoteDesks> state, ToLongFunction<RemoteDesks> call) {
        int wrong = 0;
        for (int from = 0; from < LOOKS.size(); from += PAGE) {
            RemoteDesks with = state.get();
            RemoteDesks without = state.get();
            call.applyAsLong(with);
            for (int i = from; i < from + PAGE && i < LOOKS.size(); i++) {
                wrong += LOOKS.get(i).applyAsLong(with) == LOOKS.get(i).applyAsLong(without) ? 0 : 1;
            }
        }
        CHECK.due("what changed by " + name, wrong, 0);
    }

    private static void refused(String name, int due, ToLongFunction<RemoteDesks> call) {
        refused(name, due, RefusalsTest::midst, call);
    }

    private static void refused(String name, int due, Supplier<RemoteDesks> state, ToLongFunction<RemoteDesks> call) {
        refusals++;
        CHECK.due(name, call.applyAsLong(state.get()), due);
        changesNothing(name, state, call);
    }

    private static void theBook() {
        CHECK.part("the book");
        refused("cut(-1)", OUTSIDE, x -> x.cut(-1));
        refused("cut(21)", OUTSIDE, x -> x.cut(21));
        refused("describe()", NOT, x -> x.describe());
        refused("count(-1)", OUTSIDE, x -> x.count(-1));
        refused("count(11)", OUTSIDE, x -> x.count(11));
    }

    private static void values() {
        CHECK.part("values");
        refused("node(-1)", UNKNOWN, x -> x.node(-1));
        refused("node(3)", UNKNOWN, x -> x.node(3));
        refused("set of node -1", UNKNOWN, x -> x.set(-1, 0, 0));
        refused("set of node 99", UNKNOWN, x -> x.set(99, 4, 0));
        refused("set of field -1", UNKNOWN, x -> x.set(0, -1, 0));
        refused("set of field 6", UNKNOWN, x -> x.set(0, 6, 0));
        refused("set: node, then v", UNKNOWN, x -> x.set(99, 0, 1L << 40));
        refused("set: field, then v", UNKNOWN, x -> x.set(2, 3, 1L << 40));
        refused("set int", OUTSIDE, x -> x.set(0, 0, 1L << 31));
        refused("set boolean", OUTSIDE, x -> x.set(0, 3, 2));
        refused("set pair to a box", OUTSIDE, x -> x.set(0, 5, 2));
        refused("set pair to none such", OUTSIDE, x -> x.set(0, 5, 99));
        refused("set plain to an other", OUTSIDE, x -> x.set(2, 0, 4));
        refused("set plain to none such", OUTSIDE, x -> x.set(2, 0, 5));
        refused("field", UNKNOWN, x -> x.field(0, 6));
        refused("letterAt", UNKNOWN, x -> x.letterAt(99, 0, 0));
        refused("hand of no sort", OUTSIDE, x -> x.hand(5, 0));
        refused("hand of a sort too many", OUTSIDE, x -> x.hand(13, -1));
        refused("hand int", OUTSIDE, x -> x.hand(INT, 1L << 31));
        refused("hand boolean", OUTSIDE, x -> x.hand(BOOLEAN, -1));
        refused("hand a box as pair", OUTSIDE, x -> x.hand(Make.PAIR, 2));
        refused("hand a plain as other", OUTSIDE, x -> x.hand(Make.OTHER, 0));
    }

    private static void objects() {
        CHECK.part("objects");
        refused("desk 4", UNKNOWN, x -> x.object(4, 0, 0, 0, 0));
        refused("service 3", UNKNOWN, x -> x.object(0, 3, 0, 0, 0));
        refused("desk, then deed", UNKNOWN, x -> x.object(4, 0, 6, 0, 0));
        refused("service, then deed", UNKNOWN, x -> x.object(0, -1, -1, 0, 0));
        refused("failure 3", UNKNOWN, x -> x.object(0, 0, Make.FAIL, 3, 0));
        refused("relay to 6", UNKNOWN, x -> x.object(0, 0, Make.RELAY, 6, 0));
        refused("relay to 6, then m", UNKNOWN, x -> x.object(0, 0, Make.RELAY, 6, 8));
        refused("relay, desk, then m", UNKNOWN, x -> x.object(9, 0, Make.RELAY, 0, 8));
        refused("deed 6", OUTSIDE, x -> x.object(0, 0, 6, 0, 0));
        refused("deed -1", OUTSIDE, x -> x.object(0, 0, -1, 99, 99));
        refused("m 8", OUTSIDE, x -> x.object(0, 0, Make.RELAY, 0, 8));
        refused("m -1", OUTSIDE, x -> x.object(0, 0, Make.RELAY, 5, -1));
        refused("told of 5", UNKNOWN, x -> x.told(5, 0));
        refused("told of 5, then what", UNKNOWN, x -> x.told(5, 7));
        refused("told 7", OUTSIDE, x -> x.told(0, 7));
    }

    private static void failures() {
        CHECK.part("failures");
        refused("kind 5", UNKNOWN, x -> x.failure(5, 0, -1));
        refused("cause 3", UNKNOWN, x -> x.failure(0, 0, 3));
        refused("cause -2", UNKNOWN, x -> x.failure(0, 0, -2));
        refused("kind, then note", UNKNOWN, x -> x.failure(5, 1000, -1));
        refused("cause, then note", UNKNOWN, x -> x.failure(0, -1, 3));
        refused("note 1000", OUTSIDE, x -> x.failure(0, 1000, -1));
        refused("note -1", OUTSIDE, x -> x.failure(0, -1, 2));
        refused("beside 3", UNKNOWN, x -> x.beside(3, 0));
        refused("beside of 3", UNKNOWN, x -> x.beside(2, 3));
        refused("unknown, then not ahead", UNKNOWN, x -> x.beside(0, 3));
        refused("unknown, then not ahead", UNKNOWN, x -> x.beside(-1, 2));
        refused("itself", NOT, x -> x.beside(2, 2));
        refused("not ahead", NOT, x -> x.beside(0, 1));
        Supplier<RemoteDesks> two = () -> {
            RemoteDesks x = midst();
            x.beside(2, 0);
            return x;
        };
        refused("three beside", FULL, two, x -> x.beside(2, 1));
        refused("unknown, then full", UNKNOWN, two, x -> x.beside(2, 3));
        refused("not ahead, then full", NOT, two, x -> x.beside(2, 2));
        Supplier<RemoteDesks> twelve = () -> {
            RemoteDesks x = midst();
            for (int i = 3; i < 11; i++) {
                x.failure(4, i, i - 1);
            }
            return x;
        };
        refused("size 13", FULL, twelve, x -> x.failure(0, 0, 10));
        refused("size 13", FULL, twelve, x -> x.beside(5, 0));
        refused("note, then size 13", OUTSIDE, twelve, x -> x.failure(0, 1000, 10));
        refused("kind, then size 13", UNKNOWN, twelve, x -> x.failure(5, 0, 10));
        refused("not ahead, then size 13", NOT, twelve, x -> x.beside(9, 10));
        refused("desk 4", UNKNOWN, x -> x.knows(4, 1, false));
        refused("kind 5", UNKNOWN, x -> x.knows(0, 5, false));
        refused("desk, then kind 0", UNKNOWN, x -> x.knows(4, 0, false));
        refused("kind 0", NOT, x -> x.knows(0, 0, false));
    }

    private static void references() {
        CHECK.part("references");
        refused("give, desk 4", UNKNOWN, x -> x.give(4, 0));
        refused("give, object 5", UNKNOWN, x -> x.give(0, 5));
        refused("give to the host", NOT, x -> x.give(0, 0));
        refused("release, desk -1", UNKNOWN, x -> x.release(-1, 0));
        refused("release, object 5", UNKNOWN, x -> x.release(1, 5));
        refused("release at the host", NOT, x -> x.release(1, 1));
        refused("reference, desk 4", UNKNOWN, x -> x.reference(4, 0));
        refused("reference, object -1", UNKNOWN, x -> x.reference(0, -1));
    }

    private static void calls() {
        CHECK.part("calls");
        refused("desk 4", UNKNOWN, x -> x.call(4, 0, 0));
        refused("object 5", UNKNOWN, x -> x.call(0, 5, 0));
        refused("method 8", UNKNOWN, x -> x.call(0, 0, 8));
        refused("method, then reference", UNKNOWN, x -> x.call(3, 0, 8));
        refused("object, then sorts", UNKNOWN, x -> x.call(0, -1, 1));
        refused("no reference", NOT, x -> x.call(3, 0, 0));
        refused("other sorts", NOT, x -> x.call(1, 0, 0));
        refused("other sorts at the host", NOT, x -> x.call(0, 0, 0));
        Supplier<RemoteDesks> great = () -> {
            RemoteDesks x = midst();
            for (int i = 6; i < 19; i++) {
                x.node(0);
                x.set(i, 5, i - 1);
            }
            x.open();
            x.hand(Make.PAIR, 18);
            return x;
        };
        refused("too great", FULL, great, x -> x.call(2, 1, 5));
        refused("no reference, then too great", NOT, great, x -> x.call(3, 1, 5));
        refused("other sorts, then too great", NOT, great, x -> x.call(2, 1, 0));
        refused("method, then too great", UNKNOWN, great, x -> x.call(2, 1, 8));
        for (int wild : new int[] {-1, 12, LEAST, GREATEST}) {
            refused("state", UNKNOWN, x -> x.state(wild));
            refused("value", UNKNOWN, x -> x.value(wild));
            refused("letterOf", UNKNOWN, x -> x.letterOf(wild, 0));
            refused("tree", UNKNOWN, x -> x.tree(wild, -1, 0));
            refused("about, then what", UNKNOWN, x -> x.about(wild, 6));
        }
        refused("tree, i 4", UNKNOWN, x -> x.tree(0, 4, 0));
        refused("tree, i, then what", UNKNOWN, x -> x.tree(0, -2, 5));
        refused("tree, what 5", OUTSIDE, x -> x.tree(0, 0, 5));
        refused("about, what 6", OUTSIDE, x -> x.about(0, 6));
    }

    private static void slots() {
        CHECK.part("slots and time");
        for (int wild : new int[] {-1, 40, LEAST, GREATEST}) {
            refused("slot", UNKNOWN, x -> x.slot(wild, 0));
            refused("through", UNKNOWN, x -> x.through(wild));
            refused("lose", UNKNOWN, x -> x.lose(wild));
            refused("twice", UNKNOWN, x -> x.twice(wild));
        }
        refused("through", UNKNOWN, x -> x.through(x.count(8)));
        refused("lose", UNKNOWN, x -> x.lose(x.count(8)));
        refused("twice", UNKNOWN, x -> x.twice(x.count(8)));
        refused("tick(-1)", OUTSIDE, x -> x.tick(-1));
        refused("tick(101)", OUTSIDE, x -> x.tick(101));
        refused("restart(-1)", UNKNOWN, x -> x.restart(-1));
        refused("restart(4)", UNKNOWN, x -> x.restart(4));
        refused("audit, desk 4", UNKNOWN, x -> x.audit(4, 0));
        refused("audit, desk, then what", UNKNOWN, x -> x.audit(4, 7));
        refused("audit, what 7", OUTSIDE, x -> x.audit(0, 7));
    }

    private static void stocks() {
        CHECK.part("stocks");
        refused("supply, desk 4", UNKNOWN, x -> x.supply(4, 0, 1));
        refused("supply, desk, then all", UNKNOWN, x -> x.supply(4, 4, 0));
        refused("supply, article 4", OUTSIDE, x -> x.supply(0, 4, 1));
        refused("supply 0", OUTSIDE, x -> x.supply(0, 0, 0));
        refused("supply 1001", OUTSIDE, x -> x.supply(0, 0, 1001));
        Supplier<RemoteDesks> much = () -> {
            RemoteDesks x = midst();
            for (int i = 0; i < 30; i++) {
                x.supply(3, 0, 1000);
            }
            return x;
        };
        refused("supply above 30000", FULL, much, x -> x.supply(3, 0, 1));
        refused("supply, n, then full", OUTSIDE, much, x -> x.supply(3, 0, 1001));
        refused("supply, desk, then full", UNKNOWN, much, x -> x.supply(4, 0, 1));
        refused("carry, desk 4", UNKNOWN, x -> x.carry(4, 0, 1, 1));
        refused("carry to 4", UNKNOWN, x -> x.carry(0, 4, 1, 1));
        refused("carry to 4, then n", UNKNOWN, x -> x.carry(0, 4, 1, 0));
        refused("carry, the same one that is not there", UNKNOWN, x -> x.carry(4, 4, 1, 1));
        refused("carry, article 4", OUTSIDE, x -> x.carry(0, 1, 4, 1));
        refused("carry 1001", OUTSIDE, x -> x.carry(0, 1, 1, 1001));
        refused("carry 0 to the same", OUTSIDE, x -> x.carry(0, 0, 1, 0));
        refused("carry, article, then the same", OUTSIDE, x -> x.carry(0, 0, -1, 1));
        refused("carry 1001, then less", OUTSIDE, x -> x.carry(1, 0, 1, 1001));
        refused("carry to the same", NOT, x -> x.carry(0, 0, 1, 1));
        refused("carry of none", NOT, x -> x.carry(1, 0, 1, 1));
        refused("carry of more than there is", NOT, x -> x.carry(0, 1, 1, 999));
        refused("stock, desk 4", UNKNOWN, x -> x.stock(4, 0));
        refused("stock, desk, then article", UNKNOWN, x -> x.stock(-2, 4));
        refused("stock, article 4", OUTSIDE, x -> x.stock(0, 4));
        refused("stock of NONE, article 4", OUTSIDE, x -> x.stock(-1, 4));
    }

    /** What only tells something changes nothing either. */
    private static void looking() {
        CHECK.part("looking");
        changesNothing("place", RefusalsTest::midst, x -> x.place());
        changesNothing("count", RefusalsTest::midst, x -> x.count(8));
        changesNothing("field", RefusalsTest::midst, x -> x.field(0, 5));
        changesNothing("letterAt", RefusalsTest::midst, x -> x.letterAt(0, 4, 0));
        changesNothing("reference", RefusalsTest::midst, x -> x.reference(1, 0));
        changesNothing("told", RefusalsTest::midst, x -> x.told(0, 2));
        changesNothing("state", RefusalsTest::midst, x -> x.state(1));
        changesNothing("value", RefusalsTest::midst, x -> x.value(1));
        changesNothing("letterOf", RefusalsTest::midst, x -> x.letterOf(1, 0));
        changesNothing("tree", RefusalsTest::midst, x -> x.tree(0, 0, 0));
        changesNothing("about", RefusalsTest::midst, x -> x.about(0, 3));
        changesNothing("slot", RefusalsTest::midst, x -> x.slot(0, 0));
        changesNothing("audit", RefusalsTest::midst, x -> x.audit(0, 5));
        changesNothing("stock", RefusalsTest::midst, x -> x.stock(-1, 1));
        changesNothing("tick(0)", RefusalsTest::midst, x -> x.tick(0));
        changesNothing("release of none", RefusalsTest::midst, x -> x.release(0, 1));
        changesNothing("cut of nothing", RefusalsTest::midst, x -> x.cut(20));
    }

    /** As many of all as there can be, but for slots and time. */
    private static RemoteDesks fullBench() {
        RemoteDesks x = Make.withDesks(8);
        for (int i = 0; i < 16; i++) {
            x.failure(0, i, -1);
            x.letter(i);
        }
        for (int i = 0; i < 24; i++) {
            x.object(i % 8, 0, Make.COUNT, 0, 0);
        }
        for (int i = 0; i < 60; i++) {
            x.node(0);
            x.call(i % 8, i % 8, 7);
        }
        x.supply(0, 0, 9);
        x.hand(INT, 1);
        x.hand(INT, 1);
        x.hand(INT, 1);
        return x;
    }

    /** FULL, and what is told ahead of it. */
    private static void theBench() {
        CHECK.part("a full bench");
        Supplier<RemoteDesks> full = RefusalsTest::fullBench;
        refused("desk", FULL, full, x -> x.desk());
        refused("node", FULL, full, x -> x.node(2));
        refused("node of no record", UNKNOWN, full, x -> x.node(3));
        refused("letter", FULL, full, x -> x.letter('a'));
        refused("hand", FULL, full, x -> x.hand(INT, 0));
        refused("hand a text", FULL, full, x -> x.hand(TEXT, 0));
        refused("hand nothing", FULL, full, x -> x.hand(TEXT, -1));
        refused("hand of no sort", OUTSIDE, full, x -> x.hand(5, 0));
        refused("hand what is not of it", OUTSIDE, full, x -> x.hand(BOOLEAN, 2));
        refused("object", FULL, full, x -> x.object(0, 0, 0, 0, 0));
        refused("object that fails", FULL, full, x -> x.object(0, 0, Make.FAIL, 15, 0));
        refused("object with no failure", UNKNOWN, full, x -> x.object(0, 0, Make.FAIL, 16, 0));
        refused("object of no desk", UNKNOWN, full, x -> x.object(8, 0, 0, 0, 0));
        refused("object of no deed", OUTSIDE, full, x -> x.object(0, 0, 6, 0, 0));
        refused("object with no m", OUTSIDE, full, x -> x.object(0, 0, Make.RELAY, 23, 8));
        refused("relay", FULL, full, x -> x.object(0, 0, Make.RELAY, 23, 7));
        refused("relay to none", UNKNOWN, full, x -> x.object(0, 0, Make.RELAY, 25, 0));
        refused("failure", FULL, full, x -> x.failure(0, 0, -1));
        refused("failure of no kind", UNKNOWN, full, x -> x.failure(5, 0, -1));
        refused("failure of no cause", UNKNOWN, full, x -> x.failure(0, 0, 16));
        refused("failure of no note", OUTSIDE, full, x -> x.failure(0, 1000, -1));
        refused("call, other sorts", NOT, full, x -> x.call(0, 0, 0));
        refused("call, no reference", NOT, full, x -> x.call(0, 1, 7));
        refused("call, no method", UNKNOWN, full, x -> x.call(0, 0, 8));
        refused("carry", FULL, full, x -> x.carry(0, 1, 0, 9));
        refused("carry of more than there is", NOT, full, x -> x.carry(0, 1, 0, 10));
        refused("carry to the same", NOT, full, x -> x.carry(0, 0, 0, 9));
        refused("carry of no article", OUTSIDE, full, x -> x.carry(0, 1, 4, 9));
        refused("carry to no desk", UNKNOWN, full, x -> x.carry(0, 8, 0, 9));
        Supplier<RemoteDesks> open = () -> {
            RemoteDesks x = fullBench();
            x.open();
            return x;
        };
        refused("call", FULL, open, x -> x.call(0, 0, 7));
        refused("call of one that it holds", FULL, open, x -> {
            x.give(0, 1);
            long answer = x.call(0, 1, 7);
            x.release(0, 1);
            return answer;
        });
    }

    private static void theTape() {
        CHECK.part("a full tape");
        for (int room = 0; room < 20; room += 19) {
            int bytes = 1500 - room;
            Supplier<RemoteDesks> full = () -> {
                RemoteDesks x = new RemoteDesks();
                for (int i = 0; i < 75; i++) {
                    x.feed(0x20202020, 0x20202020, 0x20202020, 0x20202020, 0x20202020);
                }
                x.cut(bytes);
                return x;
            };
            refused("feed", FULL, full, x -> x.feed(1, 2, 3, 4, 5));
            refused("cut", OUTSIDE, full, x -> x.cut(bytes + 1));
        }
    }

    private static void anAge() {
        CHECK.part("age 200");
        Supplier<RemoteDesks> old = () -> {
            RemoteDesks x = Make.withDesks(2);
            for (int i = 0; i < 200; i++) {
                x.restart(0);
            }
            x.object(1, 0, Make.COUNT, 0, 0);
            x.object(0, 0, Make.COUNT, 0, 0);
            x.give(0, 0);
            x.give(1, 1);
            add(x, 0, 0);
            add(x, 1, 1);
            x.through(1);
            return x;
        };
        refused("restart", FULL, old, x -> x.restart(0));
        refused("restart of none", UNKNOWN, old, x -> x.restart(2));
    }
}
