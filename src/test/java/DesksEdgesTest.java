/** Parts 4 and 5 of the document and promises 14 to 22, one test for each sentence that names an edge. */
public final class DesksEdgesTest {
    private static final Check CHECK = new Check();
    private static final int INT = 0, LONG = 1, BOOLEAN = 3;
    private static final int[] NO_DESK = {-1, -2, 8, Integer.MIN_VALUE, Integer.MAX_VALUE};
    private static final int LEAST = Integer.MIN_VALUE, GREATEST = Integer.MAX_VALUE;
    /** Kinds 1 to 8, each of the one ahead of it. */
    private static final String CHAIN = "failure a;failure b of a;failure c of b;failure d of c;failure e of d;failure f of e;"
        + "failure g of f;failure h of g;service s{int m();long n(int,long,boolean);boolean o();}";

    public static void main(String[] args) {
        eightDesks();
        twentyFourObjects();
        desksOfObjects();
        servicesOfObjects();
        deeds();
        withOfFail();
        withOfRelay();
        methodOfRelay();
        withIsNotLookedAt();
        sixteenFailures();
        notes();
        kindsAndCauses();
        sizeByCauses();
        sizeOfAllBelow();
        aheadOfIt();
        twoBeside();
        sizesReckonedAnew();
        refusedBesideIsNotThere();
        orderOfATree();
        kindZeroIsKnown();
        knownAtFirst();
        nearestAbove();
        noneAboveIsKnown();
        knowsAsItIsWhenItComes();
        givenAges();
        hostsAlways();
        referencesThatThereAre();
        toldWhat();
        totals();
        toldAsARefusal();
        holders();
        CHECK.end();
    }

    private static RemoteDesks chain(int desks) {
        RemoteDesks x = new RemoteDesks();
        CHECK.due("describe", Make.describe(x, CHAIN), 1);
        for (int i = 0; i < desks; i++) {
            x.desk();
        }
        return x;
    }

    /** "DESKS (8 at most) have an AGE (0 at first)"; desk(): "its number. FULL." */
    private static void eightDesks() {
        CHECK.part("8 desks");
        RemoteDesks x = new RemoteDesks();
        CHECK.due("none yet", x.audit(0, 3), Check.UNKNOWN);
        for (int i = 0; i < 8; i++) {
            CHECK.due("desk", x.desk(), i);
            CHECK.due("one more is not there", x.audit(i + 1, 3), Check.UNKNOWN);
        }
        CHECK.due("one more", x.desk(), Check.FULL);
        CHECK.due("and again", x.desk(), Check.FULL);
        CHECK.due("count", x.count(3), 8);
        CHECK.due("the last one's age", x.audit(7, 3), 0);
        CHECK.due("the last one starts anew", x.restart(7), 1);
    }

    /** "OBJECTS (24 at most)"; object(): "its number .. FULL". */
    private static void twentyFourObjects() {
        CHECK.part("24 objects");
        RemoteDesks x = chain(8);
        x.failure(0, 0, -1);
        for (int i = 0; i < 24; i++) {
            CHECK.due("object", x.object(i % 8, 0, i % 6, i % 6 == Make.FAIL ? 0 : i, i % 8), i);
        }
        for (int deed = 0; deed < 6; deed++) {
            CHECK.due("one more", x.object(0, 0, deed, 0, 0), Check.FULL);
        }
        CHECK.due("count", x.count(4), 24);
        CHECK.due("the last one's desk", x.told(23, 0), 7);
        CHECK.due("24 is not there", x.told(24, 0), Check.UNKNOWN);
    }

    /** object(): "UNKNOWN (DESK ..)". */
    private static void desksOfObjects() {
        CHECK.part("desks of objects");
        RemoteDesks x = chain(8);
        CHECK.due("desk 0", x.object(0, 0, 0, 0, 0), 0);
        CHECK.due("desk 7", x.object(7, 0, 0, 0, 0), 1);
        for (int d : NO_DESK) {
            CHECK.due("desk " + d, x.object(d, 0, 0, 0, 0), Check.UNKNOWN);
        }
        RemoteDesks y = chain(0);
        CHECK.due("no desk at all", y.object(0, 0, 0, 0, 0), Check.UNKNOWN);
    }

    /** object(): "UNKNOWN (.. service ..)". */
    private static void servicesOfObjects() {
        CHECK.part("services of objects");
        RemoteDesks x = Make.withDesks(1);
        for (int s = 0; s < 3; s++) {
            CHECK.due("service " + s, x.object(0, s, 0, 0, 0), s);
            CHECK.due("it", x.told(s, 6), s);
        }
        for (int s : new int[] {-1, 3, 8, 20, LEAST, GREATEST}) {
            CHECK.due("service " + s, x.object(0, s, 0, 0, 0), Check.UNKNOWN);
        }
        RemoteDesks y = new RemoteDesks();
        y.desk();
        CHECK.due("without a book", y.object(0, 0, 0, 0, 0), Check.UNKNOWN);
    }

    /** "An OBJECT has a DEED": 0 .. 5; object(): "OUTSIDE (DEED ..)". */
    private static void deeds() {
        CHECK.part("deeds");
        RemoteDesks x = chain(1);
        x.failure(0, 0, -1);
        for (int deed = 0; deed <= 5; deed++) {
            CHECK.due("deed " + deed, x.object(0, 0, deed, 0, 0), deed);
        }
        for (int deed : new int[] {-1, 6, 7, LEAST, GREATEST}) {
            CHECK.due("deed " + deed, x.object(0, 0, deed, 0, 0), Check.OUTSIDE);
        }
        CHECK.due("count", x.count(4), 6);
    }

    /** object(): "with: of FAIL a FAILURE". */
    private static void withOfFail() {
        CHECK.part("a failure for FAIL");
        RemoteDesks x = chain(1);
        CHECK.due("none at all", x.object(0, 0, Make.FAIL, 0, 0), Check.UNKNOWN);
        for (int i = 0; i < 16; i++) {
            x.failure(0, i, -1);
        }
        for (int with : new int[] {-1, 16, 17, LEAST, GREATEST}) {
            CHECK.due("with " + with, x.object(0, 0, Make.FAIL, with, 0), Check.UNKNOWN);
        }
        CHECK.due("the first", x.object(0, 0, Make.FAIL, 0, LEAST), 0);
        CHECK.due("the last", x.object(0, 0, Make.FAIL, 15, GREATEST), 1);
        x.call(0, 1, 0);
        CHECK.due("its note", x.tree(0, 0, 1), 15);
    }

    /** object(): "of RELAY an OBJECT (made ahead of it, or this one itself)". */
    private static void withOfRelay() {
        CHECK.part("an object for RELAY");
        RemoteDesks x = chain(1);
        CHECK.due("with -1", x.object(0, 0, Make.RELAY, -1, 0), Check.UNKNOWN);
        CHECK.due("one behind it", x.object(0, 0, Make.RELAY, 1, 0), Check.UNKNOWN);
        CHECK.due("itself", x.object(0, 0, Make.RELAY, 0, 0), 0);
        CHECK.due("one behind it", x.object(0, 0, Make.RELAY, 2, 0), Check.UNKNOWN);
        CHECK.due("itself", x.object(0, 0, Make.RELAY, 1, 0), 1);
        CHECK.due("the first", x.object(0, 0, Make.RELAY, 0, 0), 2);
        CHECK.due("the one ahead of it", x.object(0, 0, Make.RELAY, 2, 0), 3);
        for (int with : new int[] {5, 24, LEAST, GREATEST, -2}) {
            CHECK.due("with " + with, x.object(0, 0, Make.RELAY, with, 0), Check.UNKNOWN);
        }
        CHECK.due("count", x.count(4), 4);
    }

    /** object(): "m: of RELAY 0 .. 7"; "OUTSIDE (.. m)". */
    private static void methodOfRelay() {
        CHECK.part("m of RELAY");
        RemoteDesks x = chain(1);
        for (int m = 0; m <= 7; m++) {
            CHECK.due("m " + m, x.object(0, 0, Make.RELAY, m, m), m);
        }
        for (int m : new int[] {-1, 8, LEAST, GREATEST}) {
            CHECK.due("m " + m, x.object(0, 0, Make.RELAY, 0, m), Check.OUTSIDE);
        }
    }

    /** object(): "of others both are not looked at". */
    private static void withIsNotLookedAt() {
        CHECK.part("not looked at");
        RemoteDesks x = chain(1);
        int number = 0;
        for (int deed : new int[] {Make.ECHO, Make.COUNT, Make.KEEP, Make.RAISE}) {
            CHECK.due("deed " + deed, x.object(0, 0, deed, LEAST, GREATEST), number++);
            CHECK.due("deed " + deed, x.object(0, 0, deed, GREATEST, LEAST), number++);
            CHECK.due("deed " + deed, x.object(0, 0, deed, -1, 8), number++);
        }
        x.failure(0, 5, -1);
        CHECK.due("m of FAIL", x.object(0, 0, Make.FAIL, 0, 8), number);
        CHECK.due("call", x.call(0, 0, 0), 0);
        CHECK.due("state", x.state(0), 1);
    }

    /** "FAILURES (16 at most ..)"; failure(): "FULL (16 ..)". */
    private static void sixteenFailures() {
        CHECK.part("16 failures");
        RemoteDesks x = new RemoteDesks();
        for (int i = 0; i < 16; i++) {
            CHECK.due("failure", x.failure(0, 0, -1), i);
        }
        CHECK.due("one more", x.failure(0, 0, -1), Check.FULL);
        CHECK.due("with a cause", x.failure(0, 0, 15), Check.FULL);
        CHECK.due("count", x.count(6), 16);
        CHECK.due("the last one has another beside it", x.beside(15, 14), 1);
        CHECK.due("16 is not there", x.beside(16, 0), Check.UNKNOWN);
    }

    /** "a note (0 .. 999)". */
    private static void notes() {
        CHECK.part("notes");
        RemoteDesks x = chain(1);
        for (int note : new int[] {-1, 1000, 1001, LEAST, GREATEST}) {
            CHECK.due("note " + note, x.failure(0, note, -1), Check.OUTSIDE);
        }
        int[] good = {0, 1, 255, 256, 998, 999};
        for (int i = 0; i < good.length; i++) {
            CHECK.due("note " + good[i], x.failure(0, good[i], -1), i);
            x.object(0, 0, Make.FAIL, i, 0);
            x.call(0, i, 0);
            CHECK.due("it", x.tree(i, 0, 1), good[i]);
        }
    }

    /** failure(): "cause: a FAILURE, or NONE"; "UNKNOWN (kind, cause)". */
    private static void kindsAndCauses() {
        CHECK.part("kinds and causes");
        RemoteDesks x = chain(0);
        CHECK.due("no cause at all", x.failure(0, 0, 0), Check.UNKNOWN);
        CHECK.due("kind 0", x.failure(0, 0, -1), 0);
        CHECK.due("kind 8", x.failure(8, 0, -1), 1);
        for (int kind : new int[] {-1, 9, LEAST, GREATEST}) {
            CHECK.due("kind " + kind, x.failure(kind, 0, -1), Check.UNKNOWN);
        }
        for (int cause : new int[] {-2, 2, 3, 16, LEAST, GREATEST}) {
            CHECK.due("cause " + cause, x.failure(0, 0, cause), Check.UNKNOWN);
        }
        CHECK.due("the first", x.failure(0, 0, 0), 2);
        CHECK.due("the last", x.failure(0, 0, 2), 3);
        CHECK.due("itself", x.failure(0, 0, 4), Check.UNKNOWN);
    }

    /** "Its SIZE is 1 and the SIZES of all these; 12 at most"; failure(): "FULL (.. the SIZE would be more than 12)". */
    private static void sizeByCauses() {
        CHECK.part("size 12 by causes");
        RemoteDesks x = chain(1);
        x.failure(0, 0, -1);
        for (int i = 1; i < 12; i++) {
            CHECK.due("size " + (i + 1), x.failure(0, i, i - 1), i);
        }
        CHECK.due("size 13", x.failure(0, 12, 11), Check.FULL);
        CHECK.due("not made", x.count(6), 12);
        CHECK.due("size 12 again", x.failure(0, 12, 10), 12);
        x.object(0, 0, Make.FAIL, 11, 0);
        x.call(0, 0, 0);
        CHECK.due("12 in the tree", x.tree(0, -1, 0), 12);
        for (int i = 0; i < 12; i++) {
            CHECK.due("note", x.tree(0, i, 1), 11 - i);
            CHECK.due("cause", x.tree(0, i, 3), i < 11 ? 1 : 0);
        }
    }

    /** The SIZE of what is beside counts as often as it stands there. */
    private static void sizeOfAllBelow() {
        CHECK.part("size of all below");
        RemoteDesks x = chain(1);
        x.failure(0, 0, -1);
        x.failure(0, 1, 0);
        x.beside(1, 0);
        CHECK.due("1 has size 4", x.beside(1, 0), 2);
        x.failure(0, 2, 1);
        CHECK.due("2 has size 9", x.beside(2, 1), 1);
        CHECK.due("13 would be too many", x.beside(2, 1), Check.FULL);
        CHECK.due("10", x.beside(2, 0), 2);
        CHECK.due("11", x.failure(0, 3, 2), 3);
        CHECK.due("12", x.beside(3, 0), 1);
        CHECK.due("13", x.beside(3, 0), Check.FULL);
        CHECK.due("13", x.failure(0, 4, 3), Check.FULL);
        x.object(0, 0, Make.FAIL, 3, 0);
        x.call(0, 0, 0);
        CHECK.due("12 in the tree", x.tree(0, -1, 0), 12);
        int[] notes = {3, 2, 1, 0, 0, 0, 1, 0, 0, 0, 0, 0};
        for (int i = 0; i < notes.length; i++) {
            CHECK.due("note of " + i, x.tree(0, i, 1), notes[i]);
        }
    }

    /** beside(): "A FAILURE g, made ahead of f"; "NOT (g is not ahead of f)". */
    private static void aheadOfIt() {
        CHECK.part("made ahead of it");
        RemoteDesks x = new RemoteDesks();
        for (int i = 0; i < 4; i++) {
            x.failure(0, i, -1);
        }
        CHECK.due("the first to itself", x.beside(0, 0), Check.NOT);
        CHECK.due("the next one", x.beside(0, 1), Check.NOT);
        CHECK.due("the last one", x.beside(0, 3), Check.NOT);
        CHECK.due("the last to itself", x.beside(3, 3), Check.NOT);
        CHECK.due("the one ahead", x.beside(3, 2), 1);
        CHECK.due("the first", x.beside(3, 0), 2);
        for (int f : new int[] {-1, 4, LEAST, GREATEST}) {
            CHECK.due("f " + f, x.beside(f, 0), Check.UNKNOWN);
            CHECK.due("g " + f, x.beside(2, f), Check.UNKNOWN);
            CHECK.due("both " + f, x.beside(f, f), Check.UNKNOWN);
        }
    }

    /** "up to 2 beside it"; beside(): "behind others: how many are"; "FULL (2 ..)". */
    private static void twoBeside() {
        CHECK.part("2 beside");
        RemoteDesks x = chain(1);
        for (int i = 0; i < 4; i++) {
            x.failure(0, i, -1);
        }
        CHECK.due("one", x.beside(3, 2), 1);
        CHECK.due("two", x.beside(3, 1), 2);
        CHECK.due("three", x.beside(3, 0), Check.FULL);
        CHECK.due("the same one twice", x.beside(2, 0), 1);
        CHECK.due("the same one twice", x.beside(2, 0), 2);
        CHECK.due("three", x.beside(2, 1), Check.FULL);
        x.object(0, 0, Make.FAIL, 3, 0);
        x.call(0, 0, 0);
        int[] notes = {3, 2, 0, 0, 1};
        CHECK.due("size", x.tree(0, -1, 0), notes.length);
        for (int i = 0; i < notes.length; i++) {
            CHECK.due("note of " + i, x.tree(0, i, 1), notes[i]);
        }
    }

    /** beside(): "(SIZES of those that have f are reckoned anew.)"; "FULL (.. some SIZE would be more than 12)". */
    private static void sizesReckonedAnew() {
        CHECK.part("sizes reckoned anew");
        RemoteDesks x = new RemoteDesks();
        x.failure(0, 0, -1);
        x.failure(0, 1, -1);
        // 2 .. 11 are a row of causes upon 1: sizes 2 .. 11
        for (int i = 2; i < 12; i++) {
            CHECK.due("failure", x.failure(0, i, i - 1), i);
        }
        CHECK.due("the greatest is 12 then", x.beside(1, 0), 1);
        CHECK.due("13 far above", x.beside(1, 0), Check.FULL);
        CHECK.due("13 in the midst", x.beside(6, 0), Check.FULL);
        CHECK.due("13 of its own", x.beside(11, 0), Check.FULL);
        CHECK.due("nothing has 12 as a cause", x.failure(0, 12, 11), Check.FULL);
        CHECK.due("one of size 1", x.failure(0, 12, -1), 12);
        CHECK.due("size 2", x.beside(12, 0), 1);
        CHECK.due("14 of its own", x.beside(12, 11), Check.FULL);
        CHECK.due("13 of its own", x.beside(12, 10), Check.FULL);
        CHECK.due("12 of its own", x.beside(12, 9), 2);
    }

    /** "What is refused changes nothing": the one that was too much is not beside it. */
    private static void refusedBesideIsNotThere() {
        CHECK.part("a beside that is refused");
        RemoteDesks x = chain(1);
        x.failure(0, 0, -1);
        for (int i = 1; i < 11; i++) {
            x.failure(0, i, i - 1);
        }
        CHECK.due("22", x.beside(10, 9), Check.FULL);
        x.object(0, 0, Make.FAIL, 10, 0);
        x.call(0, 0, 0);
        CHECK.due("size", x.tree(0, -1, 0), 11);
        CHECK.due("beside it", x.tree(0, 0, 4), 0);
        CHECK.due("12", x.beside(10, 0), 1);
        x.call(0, 0, 0);
        CHECK.due("size", x.tree(1, -1, 0), 12);
        CHECK.due("beside it", x.tree(1, 0, 4), 1);
        CHECK.due("the last is the one beside it", x.tree(1, 11, 1), 0);
    }

    /** "itself, its cause's tree, the trees beside it in order; each with the DESK at which it was thrown". */
    private static void orderOfATree() {
        CHECK.part("the order of a tree");
        RemoteDesks x = chain(8);
        x.failure(1, 10, -1);
        x.failure(2, 11, 0);
        x.failure(3, 12, -1);
        x.failure(4, 13, 1);
        x.beside(3, 2);
        x.beside(3, 1);
        x.object(7, 0, Make.FAIL, 3, 0);
        x.call(7, 0, 0);
        int[][] due = {{4, 13, 7, 1, 2}, {2, 11, 7, 1, 0}, {1, 10, 7, 0, 0}, {3, 12, 7, 0, 0}, {2, 11, 7, 1, 0}, {1, 10, 7, 0, 0}};
        CHECK.due("size", x.tree(0, -1, 0), due.length);
        for (int i = 0; i < due.length; i++) {
            for (int what = 0; what < 5; what++) {
                CHECK.due("tree(0, " + i + ", " + what + ")", x.tree(0, i, what), due[i][what]);
            }
        }
    }

    /** "A DESK KNOWS kind 0"; knows(): "NOT (kind 0)". */
    private static void kindZeroIsKnown() {
        CHECK.part("kind 0");
        RemoteDesks x = chain(8);
        for (int d = 0; d < 8; d++) {
            CHECK.due("not to know it", x.knows(d, 0, false), Check.NOT);
            CHECK.due("to know it", x.knows(d, 0, true), Check.NOT);
        }
        for (int d : NO_DESK) {
            CHECK.due("kind 0 at desk " + d, x.knows(d, 0, true), Check.UNKNOWN);
            CHECK.due("kind 8 at desk " + d, x.knows(d, 8, true), Check.UNKNOWN);
        }
        for (int kind : new int[] {-1, 9, LEAST, GREATEST}) {
            CHECK.due("kind " + kind, x.knows(7, kind, false), Check.UNKNOWN);
        }
    }

    /** "and others or not (all at first)"; knows(): "1 if it did, 0". */
    private static void knownAtFirst() {
        CHECK.part("known at first");
        RemoteDesks x = chain(2);
        for (int kind = 1; kind <= 8; kind++) {
            CHECK.due("at first", x.knows(1, kind, true), 1);
            CHECK.due("it does", x.knows(1, kind, false), 1);
            CHECK.due("it does not", x.knows(1, kind, false), 0);
            CHECK.due("it does not", x.knows(1, kind, true), 0);
            CHECK.due("it does again", x.knows(1, kind, true), 1);
            CHECK.due("the other desk", x.knows(0, kind, true), 1);
        }
        x.knows(0, 8, false);
        CHECK.due("a desk that comes later", x.desk(), 2);
        CHECK.due("it knows all", x.knows(2, 8, true), 1);
        x.restart(0);
        CHECK.due("a restart leaves it", x.knows(0, 8, true), 0);
    }

    private static RemoteDesks kindEightAtDeskOne() {
        RemoteDesks x = chain(2);
        x.failure(8, 1, -1);
        x.object(1, 0, Make.FAIL, 0, 0);
        x.give(0, 0);
        return x;
    }

    /** "each kind that is not KNOWN there as the nearest one above (what it is of, and so on) that is". */
    private static void nearestAbove() {
        CHECK.part("the nearest one above");
        for (int known = 0; known <= 8; known++) {
            RemoteDesks x = kindEightAtDeskOne();
            for (int kind = known + 1; kind <= 8; kind++) {
                x.knows(0, kind, false);
            }
            // what lies farther above does not count
            for (int kind = 1; kind < known; kind += 2) {
                x.knows(0, kind, false);
            }
            x.call(0, 0, 0);
            x.through(0);
            CHECK.due("as it is on the way", x.slot(0, 6), 8);
            x.through(0);
            CHECK.due("known is " + known, x.tree(0, 0, 0), known);
        }
    }

    /** "kind 0, of which all are that are of none": a row of 8 kinds of which none is KNOWN ends there. */
    private static void noneAboveIsKnown() {
        CHECK.part("none above is known");
        RemoteDesks x = kindEightAtDeskOne();
        for (int kind = 1; kind <= 8; kind++) {
            x.knows(0, kind, false);
        }
        x.call(0, 0, 0);
        Make.deliverAll(x);
        CHECK.due("kind 0", x.tree(0, 0, 0), 0);
        x.knows(0, 1, true);
        x.call(0, 0, 0);
        Make.deliverAll(x);
        CHECK.due("kind 1", x.tree(1, 0, 0), 1);
        CHECK.due("the first stays", x.tree(0, 0, 0), 0);
    }

    /** "a TREE that comes to a DESK in a message": what counts is what that DESK KNOWS as it comes. */
    private static void knowsAsItIsWhenItComes() {
        CHECK.part("as it comes");
        RemoteDesks x = kindEightAtDeskOne();
        for (int kind = 1; kind <= 8; kind++) {
            x.knows(1, kind, false);
        }
        x.call(0, 0, 0);
        x.knows(0, 8, false);
        x.through(0);
        x.knows(0, 7, false);
        x.through(0);
        x.knows(0, 6, false);
        CHECK.due("kind 6", x.tree(0, 0, 0), 6);
        x.call(1, 0, 0);
        CHECK.due("at its own desk as it is", x.tree(1, 0, 0), 8);
    }

    /** "A REFERENCE knows the AGE of the hosting DESK as it was when it was given last"; give(): "the AGE that it knows". */
    private static void givenAges() {
        CHECK.part("ages of references");
        RemoteDesks x = chain(2);
        x.object(1, 0, 0, 0, 0);
        CHECK.due("give", x.give(0, 0), 0);
        for (int age = 1; age <= 200; age++) {
            x.restart(1);
        }
        CHECK.due("as it was", x.reference(0, 0), 0);
        CHECK.due("give", x.give(0, 0), 200);
        CHECK.due("as it is", x.reference(0, 0), 200);
        CHECK.due("release", x.release(0, 0), 1);
        CHECK.due("none", x.reference(0, 0), Check.NONE);
        CHECK.due("give", x.give(0, 0), 200);
    }

    /** "to those that it HOSTS always"; give(), release(): "NOT (the DESK HOSTS it)"; reference(): "NONE: .. or HOSTS it". */
    private static void hostsAlways() {
        CHECK.part("what a desk hosts");
        RemoteDesks x = chain(8);
        for (int i = 0; i < 24; i++) {
            x.object(i % 8, 0, 0, 0, 0);
        }
        for (int i : new int[] {0, 7, 16, 23}) {
            CHECK.due("give", x.give(i % 8, i), Check.NOT);
            CHECK.due("release", x.release(i % 8, i), Check.NOT);
            CHECK.due("reference", x.reference(i % 8, i), Check.NONE);
            CHECK.due("held", x.told(i, 1), 0);
        }
        CHECK.due("it may call", x.call(7, 23, 0), 0);
        CHECK.due("another may not", x.call(6, 23, 0), Check.NOT);
    }

    /** give(), release(), reference(): "UNKNOWN". */
    private static void referencesThatThereAre() {
        CHECK.part("desks and objects that there are");
        RemoteDesks x = chain(8);
        for (int i = 0; i < 24; i++) {
            x.object(0, 0, 0, 0, 0);
        }
        for (int d : NO_DESK) {
            CHECK.due("give, desk " + d, x.give(d, 0), Check.UNKNOWN);
            CHECK.due("release, desk " + d, x.release(d, 0), Check.UNKNOWN);
            CHECK.due("reference, desk " + d, x.reference(d, 0), Check.UNKNOWN);
        }
        for (int o : new int[] {-1, -2, 24, LEAST, GREATEST}) {
            CHECK.due("give, object " + o, x.give(7, o), Check.UNKNOWN);
            CHECK.due("release, object " + o, x.release(7, o), Check.UNKNOWN);
            CHECK.due("reference, object " + o, x.reference(7, o), Check.UNKNOWN);
        }
        CHECK.due("reference of none", x.reference(7, 23), Check.NONE);
        CHECK.due("release of none", x.release(7, 23), 0);
        CHECK.due("give", x.give(7, 23), 0);
        CHECK.due("reference", x.reference(7, 23), 0);
        CHECK.due("reference to another", x.reference(7, 22), Check.NONE);
        CHECK.due("release", x.release(7, 23), 1);
        CHECK.due("release again", x.release(7, 23), 0);
    }

    /** told(): "what = 0 .. 6"; "UNKNOWN, OUTSIDE". */
    private static void toldWhat() {
        CHECK.part("told");
        RemoteDesks x = chain(8);
        CHECK.due("none at all", x.told(0, 0), Check.UNKNOWN);
        x.object(7, 0, Make.COUNT, 0, 0);
        int[] due = {7, 0, 0, 0, 0, -1, 0};
        for (int what = 0; what < due.length; what++) {
            CHECK.due("told(0, " + what + ")", x.told(0, what), due[what]);
        }
        for (int what : new int[] {-1, 7, 8, LEAST, GREATEST}) {
            CHECK.due("told(0, " + what + ")", x.told(0, what), Check.OUTSIDE);
            CHECK.due("told(1, " + what + ")", x.told(1, what), Check.UNKNOWN);
        }
        for (int o : new int[] {-1, 1, 24, LEAST, GREATEST}) {
            CHECK.due("told(" + o + ", 0)", x.told(o, 0), Check.UNKNOWN);
        }
    }

    private static void add(RemoteDesks x, int a, long b, int c, long total) {
        x.hand(INT, a);
        x.hand(LONG, b);
        x.hand(BOOLEAN, c);
        int call = x.call(0, 0, 1);
        CHECK.due("total", x.value(call), total);
        CHECK.due("its lowest 32 bits", x.told(0, 3), (int) total);
        CHECK.due("its highest", x.told(0, 4), (int) (total >> 32));
        CHECK.due("as an int", x.value(x.call(0, 0, 0)), (int) total);
        CHECK.due("whether it is not 0", x.value(x.call(0, 0, 2)), total == 0 ? 0 : 1);
    }

    /** "its TOTAL (0 at first, 64 bits, wrapping)". */
    private static void totals() {
        CHECK.part("totals");
        RemoteDesks x = chain(1);
        x.object(0, 0, Make.COUNT, 0, 0);
        CHECK.due("0 at first", x.value(x.call(0, 0, 0)), 0);
        CHECK.due("it is 0", x.value(x.call(0, 0, 2)), 0);
        add(x, 0, Long.MAX_VALUE, 0, Long.MAX_VALUE);
        add(x, 0, 0, 1, Long.MIN_VALUE);
        add(x, -1, 0, 0, Long.MAX_VALUE);
        add(x, 0, -Long.MAX_VALUE, 0, 0);
        add(x, -1, 0, 0, -1);
        add(x, LEAST, 0, 0, LEAST - 1L);
        add(x, GREATEST, 0, 1, -1);
        add(x, 1, 1L << 32, 0, 1L << 32);
        add(x, 0, -(1L << 32) - 1, 1, 0);
    }

    /** told(): "(What is told may be as a refusal is.)" */
    private static void toldAsARefusal() {
        CHECK.part("told as a refusal is");
        RemoteDesks x = chain(1);
        x.object(0, 0, Make.COUNT, 0, 0);
        add(x, Check.UNKNOWN, 0, 0, Check.UNKNOWN);
        CHECK.due("told", x.told(0, 3), Check.UNKNOWN);
        add(x, -Check.UNKNOWN, (long) Check.OUTSIDE << 32, 0, (long) Check.OUTSIDE << 32);
        CHECK.due("told", x.told(0, 4), Check.OUTSIDE);
    }

    /** told(): "1 how many DESKS HOLD it": all but the one that HOSTS it. */
    private static void holders() {
        CHECK.part("how many desks hold it");
        RemoteDesks x = chain(8);
        x.object(3, 0, 0, 0, 0);
        int due = 0;
        for (int d = 0; d < 8; d++) {
            CHECK.due("give", x.give(d, 0), d == 3 ? Check.NOT : 0);
            due += d == 3 ? 0 : 1;
            CHECK.due("held", x.told(0, 1), due);
            x.give(d, 0);
            CHECK.due("given twice", x.told(0, 1), due);
        }
        x.restart(3);
        x.restart(0);
        CHECK.due("a restart leaves it", x.told(0, 1), 7);
        for (int d = 0; d < 8; d++) {
            x.release(d, 0);
        }
        CHECK.due("none", x.told(0, 1), 0);
    }
}
