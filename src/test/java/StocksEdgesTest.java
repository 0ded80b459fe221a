/** Part 8 of the document and promises 36 to 38, one test for each sentence that names an edge. */
public final class StocksEdgesTest {
    private static final Check CHECK = new Check();
    private static final int LEAST = Integer.MIN_VALUE, GREATEST = Integer.MAX_VALUE;
    private static final int[] NO_DESK = {-2, 8, 9, LEAST, GREATEST};
    private static final int[] NO_ARTICLE = {-1, 4, 5, LEAST, GREATEST};
    private static final int[] NO_UNITS = {0, -1, 1001, 1002, LEAST, GREATEST};

    public static void main(String[] args) {
        zeroAtFirst();
        unitsOfSupply();
        thirtyThousand();
        unitsOfCarry();
        theStockIsLess();
        theSameDesk();
        sixtyCalls();
        bytesOfARequest();
        ageAsItIsNow();
        tillItsDeed();
        putOnce();
        backWhenAged();
        agedBehindItsDeed();
        agedTwice();
        stayMoved();
        stocksAbove30000();
        movedOfEachArticle();
        whoseStock();
        unitsAreNeverLost();
        CHECK.end();
    }

    private static RemoteDesks desks(int n) {
        RemoteDesks x = new RemoteDesks();
        for (int i = 0; i < n; i++) {
            x.desk();
        }
        return x;
    }

    /** "Each DESK has 0 units of the articles 0 .. 3 at first." */
    private static void zeroAtFirst() {
        CHECK.part("0 at first");
        RemoteDesks x = desks(8);
        for (int d = -1; d < 8; d++) {
            for (int a = 0; a < 4; a++) {
                CHECK.due("stock(" + d + ", " + a + ")", x.stock(d, a), 0);
            }
        }
    }

    /** supply(): "n units more (1 .. 1000) come to a DESK's stock of an article: the stock. UNKNOWN, OUTSIDE". */
    private static void unitsOfSupply() {
        CHECK.part("supply");
        RemoteDesks x = desks(8);
        for (int n : NO_UNITS) {
            CHECK.due("n " + n, x.supply(0, 0, n), Check.OUTSIDE);
        }
        for (int a : NO_ARTICLE) {
            CHECK.due("article " + a, x.supply(0, a, 1), Check.OUTSIDE);
        }
        for (int d : NO_DESK) {
            CHECK.due("desk " + d, x.supply(d, 0, 1), Check.UNKNOWN);
            CHECK.due("desk " + d + " and more", x.supply(d, 4, 0), Check.UNKNOWN);
        }
        CHECK.due("desk NONE", x.supply(-1, 0, 1), Check.UNKNOWN);
        CHECK.due("none came", x.stock(0, 0), 0);
        CHECK.due("1", x.supply(0, 0, 1), 1);
        CHECK.due("1000", x.supply(0, 0, 1000), 1001);
        CHECK.due("the last of all", x.supply(7, 3, 1000), 1000);
        CHECK.due("others stay", x.stock(7, 2) + x.stock(6, 3) + x.stock(0, 3), 0);
        CHECK.due("it takes no call", x.count(7), 0);
    }

    /** supply(): "FULL (30000)". */
    private static void thirtyThousand() {
        CHECK.part("30000");
        RemoteDesks x = desks(1);
        for (int i = 0; i < 29; i++) {
            x.supply(0, 0, 1000);
        }
        CHECK.due("29001", x.supply(0, 0, 1), 29001);
        CHECK.due("30001", x.supply(0, 0, 1000), Check.FULL);
        CHECK.due("what is refused changes nothing", x.stock(0, 0), 29001);
        CHECK.due("29999", x.supply(0, 0, 998), 29999);
        CHECK.due("30001", x.supply(0, 0, 2), Check.FULL);
        CHECK.due("30000", x.supply(0, 0, 1), 30000);
        CHECK.due("30001", x.supply(0, 0, 1), Check.FULL);
        CHECK.due("OUTSIDE is told first", x.supply(0, 0, 0), Check.OUTSIDE);
        CHECK.due("another article has room", x.supply(0, 1, 1000), 1000);
    }

    /** carry(): "UNKNOWN, OUTSIDE (article, n: 1 .. 1000)". */
    private static void unitsOfCarry() {
        CHECK.part("carry");
        RemoteDesks x = desks(8);
        x.supply(0, 0, 1000);
        x.supply(0, 0, 1000);
        for (int n : NO_UNITS) {
            CHECK.due("n " + n, x.carry(0, 1, 0, n), Check.OUTSIDE);
            CHECK.due("n " + n + " to the same desk", x.carry(0, 0, 0, n), Check.OUTSIDE);
        }
        for (int a : NO_ARTICLE) {
            CHECK.due("article " + a, x.carry(0, 1, a, 1), Check.OUTSIDE);
        }
        for (int d : new int[] {-1, -2, 8, LEAST, GREATEST}) {
            CHECK.due("from " + d, x.carry(d, 1, 0, 1), Check.UNKNOWN);
            CHECK.due("to " + d, x.carry(0, d, 0, 1), Check.UNKNOWN);
            CHECK.due("from and to " + d, x.carry(d, d, 4, 0), Check.UNKNOWN);
        }
        CHECK.due("no call", x.count(7), 0);
        CHECK.due("all is there", x.stock(0, 0), 2000);
        CHECK.due("1", x.carry(0, 7, 0, 1), 0);
        CHECK.due("1000", x.carry(0, 7, 0, 1000), 1);
        CHECK.due("what is left", x.stock(0, 0), 999);
    }

    /** carry(): "NOT (.. the stock is less)". */
    private static void theStockIsLess() {
        CHECK.part("the stock is less");
        RemoteDesks x = desks(2);
        CHECK.due("none at all", x.carry(0, 1, 3, 1), Check.NOT);
        x.supply(0, 3, 10);
        CHECK.due("one more than there is", x.carry(0, 1, 3, 11), Check.NOT);
        CHECK.due("of another article", x.carry(0, 1, 2, 1), Check.NOT);
        CHECK.due("all of it", x.carry(0, 1, 3, 10), 0);
        CHECK.due("nothing is left", x.carry(0, 1, 3, 1), Check.NOT);
        CHECK.due("stock", x.stock(0, 3), 0);
        CHECK.due("what is moved is nobody's", x.carry(1, 0, 3, 1), Check.NOT);
        Make.deliverAll(x);
        CHECK.due("now it is the other's", x.carry(1, 0, 3, 10), 1);
    }

    /** carry(): "NOT (it is the same DESK ..)". */
    private static void theSameDesk() {
        CHECK.part("the same desk");
        RemoteDesks x = desks(8);
        x.supply(7, 0, 5);
        CHECK.due("with enough", x.carry(7, 7, 0, 1), Check.NOT);
        CHECK.due("with too little", x.carry(7, 7, 0, 6), Check.NOT);
        CHECK.due("stock", x.stock(7, 0), 5);
        CHECK.due("no call", x.count(7), 0);
    }

    /** carry(): "FULL (60)". */
    private static void sixtyCalls() {
        CHECK.part("60 calls");
        RemoteDesks x = desks(2);
        x.supply(0, 0, 61);
        for (int i = 0; i < 60; i++) {
            CHECK.due("carry", x.carry(0, 1, 0, 1), i);
        }
        CHECK.due("one more", x.carry(0, 1, 0, 1), Check.FULL);
        CHECK.due("NOT is told first", x.carry(0, 1, 0, 2), Check.NOT);
        CHECK.due("NOT is told first", x.carry(0, 0, 0, 1), Check.NOT);
        CHECK.due("OUTSIDE is told first", x.carry(0, 1, 4, 1), Check.OUTSIDE);
        CHECK.due("UNKNOWN is told first", x.carry(0, 2, 0, 1), Check.UNKNOWN);
        CHECK.due("stock", x.stock(0, 0), 1);
        CHECK.due("moved", x.stock(-1, 0), 60);
    }

    /** "its REQUEST is 250, the article, the AGE of the serving DESK as it is now, the units (2 bytes)". */
    private static void bytesOfARequest() {
        CHECK.part("the request");
        int[] units = {1, 255, 256, 1000};
        for (int n : units) {
            RemoteDesks x = desks(8);
            x.supply(7, 3, 1000);
            x.carry(7, 6, 3, n);
            int[] due = {7 * 16 + 6, 0, 0, 0, 1, 250, 3, 0, n >> 8, n & 255, -1};
            for (int k = 0; k < due.length; k++) {
                CHECK.due("slot(0, " + k + ")", x.slot(0, k), due[k]);
            }
            CHECK.due("one slot", x.count(8), 1);
            x.through(0);
            int[] answer = {6 * 16 + 7, 1, 0, 0, 1, 0, 0, 0, n >> 8, n & 255, -1};
            for (int k = 0; k < answer.length; k++) {
                CHECK.due("the answer's byte " + k, x.slot(0, k), answer[k]);
            }
            Make.deliverAll(x);
            CHECK.due("value", x.value(0), n);
            CHECK.due("there", x.stock(6, 3), n);
            CHECK.due("here", x.stock(7, 3), 1000 - n);
        }
    }

    /** The AGE is that of the serving DESK, and needs no REFERENCE: up to 200. */
    private static void ageAsItIsNow() {
        CHECK.part("the age as it is now");
        RemoteDesks x = desks(2);
        x.supply(0, 0, 10);
        for (int i = 0; i < 200; i++) {
            x.restart(1);
        }
        x.restart(0);
        x.carry(0, 1, 0, 5);
        CHECK.due("age", x.slot(0, 7), 200);
        Make.deliverAll(x);
        CHECK.due("state", x.state(0), 1);
        x.carry(1, 0, 0, 5);
        CHECK.due("age", x.slot(0, 7), 1);
        Make.deliverAll(x);
        CHECK.due("state", x.state(1), 1);
        CHECK.due("stock", x.stock(0, 0), 10);
    }

    /** "From the CALL on till its DEED the units are MOVED." */
    private static void tillItsDeed() {
        CHECK.part("till its deed");
        RemoteDesks x = desks(2);
        x.supply(0, 1, 10);
        x.carry(0, 1, 1, 4);
        CHECK.due("moved", x.stock(-1, 1), 4);
        x.tick(3);
        CHECK.due("moved", x.stock(-1, 1), 4);
        x.through(0);
        CHECK.due("no more", x.stock(-1, 1), 0);
        CHECK.due("there", x.stock(1, 1), 4);
        CHECK.due("the call is on the way still", x.state(0), 0);
        x.lose(0);
        x.tick(33);
        CHECK.due("given up", x.state(0), 3);
        CHECK.due("there all the same", x.stock(1, 1), 4);
        CHECK.due("not moved", x.stock(-1, 1), 0);
    }

    /** "calls that are repeated and yet take effect once". */
    private static void putOnce() {
        CHECK.part("once");
        RemoteDesks x = desks(2);
        x.supply(0, 0, 10);
        x.carry(0, 1, 0, 4);
        x.tick(35);
        for (int i = 0; i < 9; i++) {
            x.through(0);
            CHECK.due("there", x.stock(1, 0), 4);
        }
        CHECK.due("the answers", x.count(8), 9);
        Make.deliverAll(x);
        CHECK.due("value", x.value(0), 4);
        CHECK.due("there", x.stock(1, 0), 4);
        CHECK.due("here", x.stock(0, 0), 6);
    }

    /** "When the CALL becomes 4, and they still are, they go back to the calling DESK's stock". */
    private static void backWhenAged() {
        CHECK.part("back when aged");
        RemoteDesks x = desks(2);
        x.supply(0, 2, 1000);
        x.carry(0, 1, 2, 1000);
        x.restart(1);
        x.through(0);
        CHECK.due("moved till it is 4", x.stock(-1, 2), 1000);
        x.through(0);
        CHECK.due("state", x.state(0), 4);
        CHECK.due("back", x.stock(0, 2), 1000);
        CHECK.due("not moved", x.stock(-1, 2), 0);
        CHECK.due("they can go again", x.carry(0, 1, 2, 1000), 1);
        Make.deliverAll(x);
        CHECK.due("there", x.stock(1, 2), 1000);
    }

    /** "and they still are": not when the DEED was done ahead of the restart. */
    private static void agedBehindItsDeed() {
        CHECK.part("aged behind its deed");
        RemoteDesks x = desks(2);
        x.supply(0, 2, 10);
        x.carry(0, 1, 2, 10);
        x.twice(0);
        x.through(0);
        x.lose(1);
        x.restart(1);
        x.through(0);
        x.through(0);
        CHECK.due("state", x.state(0), 4);
        CHECK.due("there", x.stock(1, 2), 10);
        CHECK.due("not back", x.stock(0, 2), 0);
        CHECK.due("not moved", x.stock(-1, 2), 0);
    }

    /** AGED that comes again finds the CALL at 4. */
    private static void agedTwice() {
        CHECK.part("aged twice");
        RemoteDesks x = desks(2);
        x.supply(0, 0, 10);
        x.carry(0, 1, 0, 4);
        x.twice(0);
        x.restart(1);
        Make.deliverAll(x);
        CHECK.due("taken twice", x.audit(0, 6), 2);
        CHECK.due("back once", x.stock(0, 0), 10);
        CHECK.due("not moved", x.stock(-1, 0), 0);
    }

    /** "by 3, 5 they stay MOVED". */
    private static void stayMoved() {
        CHECK.part("they stay moved");
        RemoteDesks x = desks(3);
        x.supply(0, 0, 10);
        x.supply(2, 0, 10);
        x.carry(0, 1, 0, 4);
        x.lose(0);
        x.tick(36);
        CHECK.due("given up", x.state(0), 3);
        CHECK.due("moved", x.stock(-1, 0), 4);
        x.carry(2, 1, 0, 3);
        x.restart(2);
        CHECK.due("forgotten", x.state(1), 5);
        CHECK.due("moved", x.stock(-1, 0), 7);
        x.restart(1);
        Make.deliverAll(x);
        CHECK.due("aged comes too late for both", x.stock(-1, 0), 7);
        CHECK.due("given up", x.state(0), 3);
        CHECK.due("forgotten", x.state(1), 5);
        CHECK.due("not back", x.stock(0, 0) + x.stock(2, 0), 6 + 7);
        CHECK.due("not there", x.stock(1, 0), 0);
    }

    /** 30000 bounds supply() alone: units that go, or go back, are never lost. */
    private static void stocksAbove30000() {
        CHECK.part("above 30000");
        RemoteDesks x = desks(2);
        for (int i = 0; i < 30; i++) {
            x.supply(0, 0, 1000);
            x.supply(1, 0, 1000);
        }
        x.carry(0, 1, 0, 1000);
        x.supply(0, 0, 1000);
        Make.deliverAll(x);
        CHECK.due("there", x.stock(1, 0), 31000);
        CHECK.due("value", x.value(0), 31000);
        x.carry(1, 0, 0, 1000);
        x.restart(0);
        x.supply(1, 0, 1000);
        CHECK.due("30000 here", x.stock(1, 0), 30000);
        Make.deliverAll(x);
        CHECK.due("they go back", x.stock(1, 0), 31000);
        CHECK.due("supply", x.supply(1, 0, 1), Check.FULL);
    }

    /** "of DESK NONE the units that are MOVED": by article, of all CALLS. */
    private static void movedOfEachArticle() {
        CHECK.part("moved");
        RemoteDesks x = desks(3);
        for (int a = 0; a < 4; a++) {
            x.supply(0, a, 100);
            x.supply(1, a, 100);
            x.carry(0, 2, a, 10 + a);
            x.carry(1, 2, a, 20 + a);
        }
        for (int a = 0; a < 4; a++) {
            CHECK.due("moved", x.stock(-1, a), 30 + 2 * a);
        }
        x.through(0);
        CHECK.due("moved", x.stock(-1, 0), 20);
        CHECK.due("moved", x.stock(-1, 1), 32);
        Make.deliverAll(x);
        for (int a = 0; a < 4; a++) {
            CHECK.due("moved", x.stock(-1, a), 0);
            CHECK.due("there", x.stock(2, a), 30 + 2 * a);
        }
    }

    /** stock(): "A DESK's stock of an article; of DESK NONE ..; UNKNOWN, OUTSIDE". */
    private static void whoseStock() {
        CHECK.part("stock");
        RemoteDesks x = desks(8);
        for (int d : NO_DESK) {
            CHECK.due("desk " + d, x.stock(d, 0), Check.UNKNOWN);
            CHECK.due("desk " + d + " and no article", x.stock(d, 4), Check.UNKNOWN);
        }
        for (int a : NO_ARTICLE) {
            CHECK.due("article " + a, x.stock(0, a), Check.OUTSIDE);
            CHECK.due("article " + a + " of NONE", x.stock(-1, a), Check.OUTSIDE);
        }
        RemoteDesks y = desks(0);
        CHECK.due("no desk at all", y.stock(0, 0), Check.UNKNOWN);
        CHECK.due("NONE without desks", y.stock(-1, 0), 0);
        CHECK.due("NONE without desks", y.stock(-1, 4), Check.OUTSIDE);
    }

    /** "stocks that are moved and never lost". */
    private static void unitsAreNeverLost() {
        CHECK.part("never lost");
        RemoteDesks x = desks(3);
        for (int d = 0; d < 3; d++) {
            x.supply(d, 0, 100);
        }
        for (int i = 0; i < 45; i++) {
            x.carry(i % 3, (i + 1 + i % 2) % 3, 0, 1 + i % 5);
            if (i % 4 == 1) {
                x.lose(0);
            }
            if (i % 3 == 0) {
                x.through(x.count(8) - 1);
            }
            if (i % 7 == 0) {
                x.restart(i % 3);
            }
            if (i % 5 == 0) {
                x.tick(i % 9);
            }
            CHECK.due("in all", x.stock(-1, 0) + x.stock(0, 0) + x.stock(1, 0) + x.stock(2, 0), 300);
        }
    }
}
