/** What part 4 of the document says of DEEDS, one test for each sentence that names an edge; at the same DESK and from another. */
public final class DeedsEdgesTest {
    private static final Check CHECK = new Check();
    private static final int INT = 0, LONG = 1, DOUBLE = 2, BOOLEAN = 3, TEXT = 4, NODE = 10, PLAIN = 20, OTHER = 21;
    /** Methods of each SORT's answer without arguments, then with some. */
    private static final String ZEROS = "record r{int i;long l;r n;}service p{}"
        + "service s{int a();long b();double c();boolean d();text e();r f();p g();s h();}";
    private static final String FIRSTS = "record r{int i;long l;r n;}service p{}"
        + "service s{int a(long,int,int);r b(r,r);long c(int,boolean,long);p d(p,s);s e(p,s);s f(s,p);p g(p,p,p);int h(p,r);}";

    public static void main(String[] args) {
        echoOfNone();
        echoOfTheFirst();
        countOfNone();
        countOfEachSort();
        totalAsEachSort();
        keepsTheLast();
        keepsNothing();
        answersWhatItKept();
        keptReferencesCome();
        raisesOnceEach();
        raiseWraps();
        raisesTheCopies();
        raiseOfNothing();
        forAllMethods();
        CHECK.end();
    }

    /** Desk 1 hosts object 0, of service 1, and object 1, of service 0; desk 0 holds both. */
    private static RemoteDesks twoDesks(String book, int deed) {
        RemoteDesks x = new RemoteDesks();
        CHECK.due("describe", Make.describe(x, book), 2);
        x.desk();
        x.desk();
        x.object(1, 1, deed, 0, 0);
        x.object(1, 0, deed, 0, 0);
        x.give(0, 0);
        x.give(0, 1);
        return x;
    }

    private static long answer(RemoteDesks x, int desk, int m) {
        int c = x.call(desk, 0, m);
        Make.deliverAll(x);
        CHECK.due("state", x.state(c), 1);
        return x.value(c);
    }

    /** ECHO: "there is none: ZERO". */
    private static void echoOfNone() {
        CHECK.part("echo of none");
        String[] bytes = {"0 0 0 0", "0 0 0 0 0 0 0 0", "0 0 0 0 0 0 0 0", "0", "255", "255", "255", "255"};
        for (int deed : new int[] {Make.ECHO, Make.COUNT, Make.KEEP, Make.RAISE}) {
            RemoteDesks x = twoDesks(ZEROS, deed);
            for (int m = 0; m < 8; m++) {
                CHECK.due("at its own desk", answer(x, 1, m), m < 4 ? 0 : -1);
                int c = x.call(0, 0, m);
                x.through(0);
                String got = Make.bytes(x, 0);
                CHECK.due("bytes " + got, got.equals("16 1 " + c + " 0 1 0 " + bytes[m]) ? 1 : 0, 1);
                Make.deliverAll(x);
                CHECK.due("from another desk", x.value(c), m < 4 ? 0 : -1);
            }
            CHECK.due("no node came", x.count(5), 0);
        }
    }

    /** ECHO: "answers the first of its arguments whose SORT is that of the method". */
    private static void echoOfTheFirst() {
        CHECK.part("echo of the first");
        for (int d = 0; d < 2; d++) {
            RemoteDesks x = twoDesks(FIRSTS, Make.ECHO);
            x.hand(LONG, 7);
            x.hand(INT, 8);
            x.hand(INT, 9);
            CHECK.due("not the long", answer(x, d, 0), 8);
            x.hand(INT, 7);
            x.hand(BOOLEAN, 1);
            x.hand(LONG, 9);
            CHECK.due("the last of three", answer(x, d, 2), 9);
            x.node(0);
            x.hand(NODE, -1);
            x.hand(NODE, 0);
            CHECK.due("nothing is the first", answer(x, d, 1), -1);
            x.hand(PLAIN, 1);
            x.hand(OTHER, 0);
            CHECK.due("of that service", answer(x, d, 4), 0);
            x.hand(PLAIN, 1);
            x.hand(OTHER, 0);
            CHECK.due("of the other one", answer(x, d, 3), 1);
        }
    }

    /** COUNT: "its TOTAL (0 at first ..)"; without arguments it stays. */
    private static void countOfNone() {
        CHECK.part("count of none");
        RemoteDesks x = twoDesks(ZEROS, Make.COUNT);
        for (int m = 0; m < 8; m++) {
            x.call(1, 0, m);
        }
        CHECK.due("total", x.told(0, 3), 0);
        CHECK.due("total", x.told(0, 4), 0);
        CHECK.due("begun", x.told(0, 2), 8);
        CHECK.due("the other", x.told(1, 2), 0);
    }

    /** COUNT: "more by each argument of SORT 0, 1, 3". */
    private static void countOfEachSort() {
        CHECK.part("count of each sort");
        RemoteDesks x = new RemoteDesks();
        Make.describe(x, "record r{int i;}service p{}"
            + "service s{long a(int,long,boolean);long b(double,text,r);long c(p,s);long d(int,int,int);long e(long,long,long);}");
        x.desk();
        x.object(0, 1, Make.COUNT, 0, 0);
        x.object(0, 0, Make.COUNT, 0, 0);
        x.node(0);
        x.set(0, 0, 1000);
        x.hand(INT, -3);
        x.hand(LONG, 1L << 40);
        x.hand(BOOLEAN, 1);
        long total = (1L << 40) - 2;
        CHECK.due("0, 1, 3", x.value(x.call(0, 0, 0)), total);
        x.hand(DOUBLE, 4096);
        Make.letters(x, "zzz");
        x.hand(TEXT, 0);
        x.hand(NODE, 0);
        CHECK.due("2, 4, 10", x.value(x.call(0, 0, 1)), total);
        x.hand(PLAIN, 1);
        x.hand(OTHER, 0);
        CHECK.due("20, 21", x.value(x.call(0, 0, 2)), total);
        for (int i = 0; i < 3; i++) {
            x.hand(INT, Integer.MIN_VALUE);
        }
        total -= 3L << 31;
        CHECK.due("each of three", x.value(x.call(0, 0, 3)), total);
        for (int i = 0; i < 3; i++) {
            x.hand(LONG, Long.MAX_VALUE);
        }
        total += 3 * Long.MAX_VALUE;
        CHECK.due("wrapping", x.value(x.call(0, 0, 4)), total);
        CHECK.due("low", x.told(0, 3), (int) total);
        CHECK.due("high", x.told(0, 4), (int) (total >> 32));
    }

    /** COUNT: "answers TOTAL, as SORT 0 its lowest 32 bits, 1 all, 2 those bits, 3 whether it is not 0, else ZERO". */
    private static void totalAsEachSort() {
        CHECK.part("total as each sort");
        long[] totals = {0, 1, -1, 1L << 31, 1L << 32, -(1L << 32), Long.MIN_VALUE, Long.MAX_VALUE, 0x7ff8000000000001L};
        for (long total : totals) {
            for (int d = 0; d < 2; d++) {
                RemoteDesks x = twoDesks("service p{}record r{}"
                    + "service s{long a(long);int b();double c();boolean d();text e();r f();p g();s h();}", Make.COUNT);
                x.hand(LONG, total);
                CHECK.due("all", answer(x, d, 0), total);
                CHECK.due("its lowest 32 bits", answer(x, d, 1), (int) total);
                CHECK.due("those bits", answer(x, d, 2), total);
                CHECK.due("whether it is not 0", answer(x, d, 3), total == 0 ? 0 : 1);
                for (int m = 4; m < 8; m++) {
                    CHECK.due("else ZERO", answer(x, d, m), -1);
                }
            }
        }
    }

    /** KEEP: "keeps the last of its arguments that is of SORT 20 and more". */
    private static void keepsTheLast() {
        CHECK.part("keeps the last");
        for (int d = 0; d < 2; d++) {
            RemoteDesks x = twoDesks(FIRSTS, Make.KEEP);
            x.object(1, 0, Make.ECHO, 0, 0);
            x.object(1, 0, Make.ECHO, 0, 0);
            x.hand(PLAIN, 1);
            x.hand(PLAIN, 2);
            x.hand(PLAIN, 3);
            CHECK.due("nothing before", answer(x, d, 6), -1);
            CHECK.due("the last of three", x.told(0, 5), 3);
            x.hand(OTHER, 0);
            x.hand(PLAIN, 2);
            CHECK.due("of another sort", answer(x, d, 5), -1);
            CHECK.due("of whichever service", x.told(0, 5), 2);
            x.node(0);
            x.hand(PLAIN, 1);
            x.hand(NODE, -1);
            answer(x, d, 7);
            CHECK.due("a node is none", x.told(0, 5), 1);
        }
    }

    /** KEEP: "(nothing, if it has none)": none of that SORT, or the last one is nothing. */
    private static void keepsNothing() {
        CHECK.part("keeps nothing");
        for (int d = 0; d < 2; d++) {
            RemoteDesks x = twoDesks(FIRSTS, Make.KEEP);
            CHECK.due("at first", x.told(0, 5), Check.NONE);
            x.hand(PLAIN, 1);
            x.hand(OTHER, 0);
            answer(x, d, 3);
            CHECK.due("kept", x.told(0, 5), 0);
            x.hand(PLAIN, 1);
            x.hand(OTHER, -1);
            answer(x, d, 3);
            CHECK.due("the last one is nothing", x.told(0, 5), Check.NONE);
            x.hand(PLAIN, -1);
            x.hand(OTHER, 0);
            answer(x, d, 3);
            CHECK.due("the first one is nothing", x.told(0, 5), 0);
            x.hand(INT, 0);
            x.hand(BOOLEAN, 0);
            x.hand(LONG, 1);
            CHECK.due("a long: 0", answer(x, d, 2), 0);
            CHECK.due("none of that sort", x.told(0, 5), Check.NONE);
        }
    }

    /** KEEP: "and answers what it kept before, if that is of the method's SORT and not nothing, else ZERO". */
    private static void answersWhatItKept() {
        CHECK.part("answers what it kept");
        for (int d = 0; d < 2; d++) {
            RemoteDesks x = twoDesks(FIRSTS, Make.KEEP);
            x.hand(PLAIN, 1);
            x.hand(OTHER, 0);
            CHECK.due("nothing before", answer(x, d, 4), -1);
            x.hand(PLAIN, 1);
            x.hand(OTHER, 0);
            CHECK.due("of another sort", answer(x, d, 3), -1);
            x.hand(OTHER, 0);
            x.hand(PLAIN, 1);
            CHECK.due("of the method's", answer(x, d, 5), 0);
            x.hand(PLAIN, -1);
            x.hand(OTHER, -1);
            CHECK.due("of the method's", answer(x, d, 3), 1);
            x.hand(PLAIN, 1);
            x.hand(OTHER, 0);
            CHECK.due("nothing was kept", answer(x, d, 3), -1);
            x.restart(1);
            x.give(0, 0);
            CHECK.due("a restart leaves it", x.told(0, 5), 0);
        }
    }

    /** "REFERENCES that come are given to the DESK": also one that was kept. */
    private static void keptReferencesCome() {
        CHECK.part("kept references");
        RemoteDesks x = twoDesks(FIRSTS, Make.KEEP);
        x.desk();
        x.object(2, 0, Make.ECHO, 0, 0);
        x.hand(OTHER, -1);
        x.hand(PLAIN, 2);
        x.call(1, 0, 5);
        CHECK.due("kept", x.told(0, 5), 2);
        CHECK.due("no message gave it", x.told(2, 1), 0);
        x.restart(2);
        x.hand(PLAIN, -1);
        x.hand(OTHER, -1);
        CHECK.due("answered", answer(x, 0, 3), 2);
        CHECK.due("given to the caller", x.reference(0, 2), 1);
        CHECK.due("not to the serving desk", x.reference(1, 2), Check.NONE);
    }

    /** RAISE: "each NODE that can be reached from its arguments, once each". */
    private static void raisesOnceEach() {
        CHECK.part("once each");
        RemoteDesks x = twoDesks(FIRSTS, Make.RAISE);
        for (int i = 0; i < 60; i++) {
            x.node(0);
            x.set(i, 2, i == 0 || i == 58 ? -1 : i == 59 ? 59 : i - 1);
        }
        x.set(0, 2, 57);
        x.hand(NODE, 57);
        x.hand(NODE, 3);
        CHECK.due("as echo", answer(x, 1, 1), 57);
        for (int i = 0; i < 60; i++) {
            CHECK.due("int of " + i, x.field(i, 0), i < 58 ? 1 : 0);
            CHECK.due("long of " + i, x.field(i, 1), i < 58 ? 1 : 0);
        }
        x.hand(NODE, 59);
        x.hand(NODE, 59);
        answer(x, 1, 1);
        CHECK.due("a ring of one, twice", x.field(59, 0), 1);
        CHECK.due("its neighbour", x.field(58, 0), 0);
    }

    /** RAISE: "has each field of SORT 0, 1 more by 1 (wrapping)". */
    private static void raiseWraps() {
        CHECK.part("wrapping");
        for (int d = 0; d < 2; d++) {
            RemoteDesks x = twoDesks(FIRSTS, Make.RAISE);
            x.node(0);
            x.set(0, 0, Integer.MAX_VALUE);
            x.set(0, 1, Long.MAX_VALUE);
            x.hand(NODE, 0);
            x.hand(NODE, -1);
            int n = (int) answer(x, d, 1);
            CHECK.due("int", x.field(n, 0), Integer.MIN_VALUE);
            CHECK.due("long", x.field(n, 1), Long.MIN_VALUE);
            x.set(0, 0, -1);
            x.set(0, 1, 0xffffffffL);
            x.hand(NODE, 0);
            x.hand(NODE, -1);
            n = (int) answer(x, d, 1);
            CHECK.due("int", x.field(n, 0), 0);
            CHECK.due("long", x.field(n, 1), 0x100000000L);
        }
    }

    /** From another DESK the copies there are raised, not what was sent. */
    private static void raisesTheCopies() {
        CHECK.part("the copies");
        RemoteDesks x = twoDesks(FIRSTS, Make.RAISE);
        x.node(0);
        x.hand(NODE, 0);
        x.hand(NODE, 0);
        CHECK.due("value", answer(x, 0, 1), 2);
        int[] due = {0, 1, 1};
        for (int i = 0; i < due.length; i++) {
            CHECK.due("field(" + i + ", 0)", x.field(i, 0), due[i]);
        }
        CHECK.due("nodes", x.count(5), 3);
    }

    /** RAISE: "then as ECHO", also when there is nothing to raise. */
    private static void raiseOfNothing() {
        CHECK.part("nothing to raise");
        RemoteDesks x = twoDesks(FIRSTS, Make.RAISE);
        x.node(0);
        x.hand(NODE, -1);
        x.hand(NODE, -1);
        CHECK.due("nothing", answer(x, 1, 1), -1);
        x.hand(LONG, 1);
        x.hand(INT, 5);
        x.hand(INT, 6);
        CHECK.due("an int is not raised", answer(x, 1, 0), 5);
        CHECK.due("a node that was not reached", x.field(0, 0), 0);
    }

    /** "An OBJECT has a DEED, for all methods of its service". */
    private static void forAllMethods() {
        CHECK.part("for all methods");
        RemoteDesks x = new RemoteDesks();
        Make.describe(x, ZEROS);
        x.desk();
        x.failure(0, 321, -1);
        x.object(0, 1, Make.FAIL, 0, 0);
        for (int m = 0; m < 8; m++) {
            CHECK.due("call", x.call(0, 0, m), m);
            CHECK.due("state", x.state(m), 2);
            CHECK.due("note", x.tree(m, 0, 1), 321);
        }
        CHECK.due("begun", x.told(0, 2), 8);
    }
}
