/** Part 6 of the document and promises 29 to 32, one test for each sentence that names an edge. */
public final class MessagesEdgesTest {
    private static final Check CHECK = new Check();
    private static final int INT = 0, LONG = 1, DOUBLE = 2, BOOLEAN = 3, TEXT = 4, NODE = 10, OBJECT = 20;
    private static final int LEAST = Integer.MIN_VALUE, GREATEST = Integer.MAX_VALUE;
    private static final String ROWS = Make.ROW_RECORD + "service s{int a(r);int b(r,boolean);int c(r,int);"
        + "int d(r,long);int e(r,double);int f(r,text);int g(r,s);int h(r,r);}";
    private static final int ROW_NODES = Make.ROW_NODES;

    public static void main(String[] args) {
        numbersAtTheirEnds();
        lastArgumentAtTheEdge();
        textsAtTheEdge();
        nodesAtTheEdge();
        tooGreatIsRefusedWhole();
        twelveNodes();
        twelveNodesInSeveralArguments();
        nodesAreMetOnce();
        nodesInTheirOrder();
        recordsWithoutFields();
        partsOf24Bytes();
        partsOfAnswers();
        partsOfTrees();
        greatestNumbersInASlot();
        bytesOfASlot();
        slotsThatThereAre();
        whatThroughTells();
        fortySlots();
        allPartsCountAmongForty();
        answersAmongForty();
        tickAmongForty();
        twiceAmongForty();
        twiceOfATwice();
        lostByLoseIsNotCounted();
        hostedAreNotGiven();
        nothingIsNotGiven();
        CHECK.end();
    }

    private static void same(String what, String got, String want) {
        if (!got.equals(want)) {
            System.out.println(what + ": " + got + ", due is " + want);
        }
        CHECK.due(what, got.equals(want) ? 1 : 0, 1);
    }

    /** A book; desk 1 hosts object 0 of service 0, desk 0 holds it. */
    private static RemoteDesks twoDesks(String book, int deed) {
        RemoteDesks x = new RemoteDesks();
        if (Make.describe(x, book) < 0) {
            throw new IllegalStateException("fault at " + x.place());
        }
        x.desk();
        x.desk();
        x.object(1, 0, deed, 0, 0);
        x.give(0, 0);
        return x;
    }

    /** "SORT 0 4 bytes, 1 and 2 8 bytes (the highest first), 3 one byte". */
    private static void numbersAtTheirEnds() {
        CHECK.part("numbers at their ends");
        RemoteDesks x = twoDesks("service s{int a(int);long b(long);double c(double);boolean d(boolean);}", Make.ECHO);
        int[] sorts = {INT, INT, LONG, LONG, DOUBLE, DOUBLE, BOOLEAN, BOOLEAN};
        long[] v = {LEAST, GREATEST, Long.MIN_VALUE, Long.MAX_VALUE, -1, 0x7ff0000000000001L, 0, 1};
        String[] bytes = {"128 0 0 0", "127 255 255 255", "128 0 0 0 0 0 0 0", "127 255 255 255 255 255 255 255",
            "255 255 255 255 255 255 255 255", "127 240 0 0 0 0 0 1", "0", "1"};
        for (int i = 0; i < v.length; i++) {
            x.hand(sorts[i], v[i]);
            CHECK.due("call", x.call(0, 0, sorts[i]), i);
            same("request", Make.bytes(x, 0), "1 0 " + i + " 0 1 0 " + sorts[i] + " 0 " + bytes[i]);
            x.through(0);
            same("answer", Make.bytes(x, 0), "16 1 " + i + " 0 1 0 " + bytes[i]);
            Make.deliverAll(x);
            CHECK.due("value", x.value(i), v[i]);
        }
    }

    /** A request to method m, whose last argument has some bytes, of 240 and of 241 bytes. */
    private static void edge(int m, int sort, long v, int bytes) {
        for (int all = 239; all <= 241; all++) {
            RemoteDesks x = twoDesks(ROWS, Make.COUNT);
            Make.row(x, all - 3 - bytes);
            x.hand(NODE, ROW_NODES - 1);
            if (sort >= 0) {
                x.hand(sort, v);
            }
            CHECK.due(all + " bytes to method " + m, x.call(0, 0, m), all <= 240 ? 0 : Check.FULL);
            CHECK.due("parts", x.count(8), all <= 240 ? 10 : 0);
            CHECK.due("the last byte is there", x.slot(9, all - 216 + 4) >= 0 ? 1 : 0, all <= 240 ? 1 : 0);
            CHECK.due("no byte more", x.slot(9, all - 216 + 5), all <= 240 ? Check.NONE : Check.UNKNOWN);
            CHECK.due("the hand", x.open(), all <= 240 ? 0 : sort >= 0 ? 2 : 1);
            Make.deliverAll(x);
            CHECK.due("deed", x.told(0, 2), all <= 240 ? 1 : 0);
            CHECK.due("state", x.state(0), all <= 240 ? 1 : Check.UNKNOWN);
        }
    }

    /** "A MESSAGE is TOO GREAT with more than 240 bytes": whichever VALUE is the last. */
    private static void lastArgumentAtTheEdge() {
        CHECK.part("240 bytes");
        edge(0, -1, 0, 0);
        edge(1, BOOLEAN, 1, 1);
        edge(2, INT, -1, 4);
        edge(3, LONG, -1, 8);
        edge(4, DOUBLE, -1, 8);
        edge(6, OBJECT, 0, 1);
        edge(6, OBJECT, -1, 1);
        edge(7, NODE, -1, 1);
        edge(7, NODE, ROW_NODES - 1, 2);
        edge(7, NODE, 0, 2);
    }

    /** A text has a byte for its length ahead of its own; nothing has one byte. */
    private static void textsAtTheEdge() {
        CHECK.part("240 bytes with a text");
        for (int length = -1; length <= 16; length++) {
            for (int all = 240; all <= 241; all++) {
                RemoteDesks x = twoDesks(ROWS, Make.COUNT);
                Make.row(x, all - 4 - Math.max(0, length));
                x.hand(NODE, ROW_NODES - 1);
                Make.letters(x, "0123456789abcdef".substring(0, Math.max(0, length)));
                x.hand(TEXT, length);
                CHECK.due("a text of " + length, x.call(0, 0, 5), all == 240 ? 0 : Check.FULL);
                CHECK.due("parts", x.count(8), all == 240 ? 10 : 0);
            }
        }
    }

    /** A NODE more has 253 and its fields. */
    private static void nodesAtTheEdge() {
        CHECK.part("240 bytes with a node more");
        String book = ROWS.replace("service s{", "record q{}service s{").replace("h(r,r)", "h(r,q)");
        for (int all = 240; all <= 241; all++) {
            RemoteDesks x = twoDesks(book, Make.COUNT);
            Make.row(x, all - 4);
            x.node(1);
            x.hand(NODE, ROW_NODES - 1);
            x.hand(NODE + 1, ROW_NODES);
            CHECK.due(all + " bytes", x.call(0, 0, 7), all == 240 ? 0 : Check.FULL);
            CHECK.due("parts", x.count(8), all == 240 ? 10 : 0);
            CHECK.due("its last byte", x.slot(9, 28), all == 240 ? 253 : Check.UNKNOWN);
        }
    }

    /** call(): "FULL (.. the REQUEST would be TOO GREAT)"; "THE HAND .. stays, if this is refused". */
    private static void tooGreatIsRefusedWhole() {
        CHECK.part("too great");
        RemoteDesks x = twoDesks(ROWS, Make.COUNT);
        x.object(0, 0, Make.COUNT, 0, 0);
        Make.row(x, 237);
        x.hand(NODE, ROW_NODES - 1);
        x.hand(BOOLEAN, 1);
        CHECK.due("241 bytes", x.call(0, 0, 1), Check.FULL);
        CHECK.due("no call", x.count(7), 0);
        CHECK.due("no slot", x.count(8), 0);
        CHECK.due("none sent", x.audit(0, 0), 0);
        CHECK.due("to an object of its own there is no message", x.call(0, 1, 1), 0);
        CHECK.due("state", x.state(0), 1);
        x.hand(NODE, ROW_NODES - 1);
        CHECK.due("240 bytes", x.call(0, 0, 0), 1);
    }

    private static RemoteDesks nodesIn(String book, int nodes) {
        RemoteDesks x = twoDesks(book, Make.ECHO);
        for (int i = 0; i < nodes; i++) {
            x.node(0);
        }
        return x;
    }

    /** "or more than 12 NODES"; "254 and n for a NODE that this message has already, as its n-th one (from 0 on)". */
    private static void twelveNodes() {
        CHECK.part("12 nodes");
        for (int n = 11; n <= 13; n++) {
            RemoteDesks x = nodesIn("record r{r n;r m;}service s{r a(r);}", n);
            for (int i = 0; i < n; i++) {
                x.set(i, 0, i == n - 1 ? 0 : i + 1);
                x.set(i, 1, n - 1);
            }
            x.hand(NODE, 0);
            CHECK.due(n + " nodes", x.call(0, 0, 0), n <= 12 ? 0 : Check.FULL);
            if (n == 12) {
                // 253 twelve times; the last has 0 and itself; then the fields m of the others
                StringBuilder all = new StringBuilder("1 0 0 0 2 0 0 0");
                all.append(" 253".repeat(12)).append(" 254 0").append(" 254 11".repeat(3)).append(" 254");
                same("part 0", Make.bytes(x, 0), all.toString());
                same("part 1", Make.bytes(x, 1), "1 0 0 1 2 11" + " 254 11".repeat(8));
                Make.deliverAll(x);
                CHECK.due("state", x.state(0), 1);
                CHECK.due("nodes", x.count(5), 36);
                CHECK.due("the last one's first field", x.field(23, 0), 12);
                CHECK.due("the last one's second field", x.field(23, 1), 23);
                CHECK.due("the first one's second field", x.field(12, 1), 23);
                CHECK.due("value", x.value(0), 24);
            }
        }
    }

    /** The 12 are those of all arguments. */
    private static void twelveNodesInSeveralArguments() {
        CHECK.part("12 nodes in 3 arguments");
        for (int n = 12; n <= 13; n++) {
            RemoteDesks x = nodesIn("record r{r n;}service s{int a(r,r,r);}", n);
            for (int i = 0; i < n; i++) {
                x.set(i, 0, i % 4 == 3 || i == n - 1 ? -1 : i + 1);
            }
            x.hand(NODE, 0);
            x.hand(NODE, 4);
            x.set(12, 0, 8);
            x.hand(NODE, n == 12 ? 8 : 12);
            CHECK.due(n + " nodes", x.call(0, 0, 0), n == 12 ? 0 : Check.FULL);
            CHECK.due("the hand", x.open(), n == 12 ? 0 : 3);
        }
    }

    /** A NODE that is met again is none more. */
    private static void nodesAreMetOnce() {
        CHECK.part("a node met again");
        RemoteDesks x = nodesIn("record r{r n;}service s{int a(r,r,r);}", 12);
        for (int i = 0; i < 12; i++) {
            x.set(i, 0, (i + 1) % 12);
        }
        x.hand(NODE, 0);
        x.hand(NODE, 11);
        x.hand(NODE, 0);
        CHECK.due("12 nodes, three times", x.call(0, 0, 0), 0);
        same("request", Make.bytes(x, 0), "1 0 0 0 1 0 0 0" + " 253".repeat(12) + " 254 0 254 11 254 0");
        x.through(0);
        CHECK.due("12 more", x.count(5), 24);
        CHECK.due("a ring", x.field(23, 0), 12);
    }

    /** "NODES that come are new ones of the bench, in the order in which the message has them first". */
    private static void nodesInTheirOrder() {
        CHECK.part("nodes in their order");
        RemoteDesks x = nodesIn("record r{int i;r a;r b;}service s{int a(r,r);}", 5);
        for (int i = 0; i < 5; i++) {
            x.set(i, 0, 100 + i);
        }
        // 4 has 3 and 1; 3 has 2 and 4; 1 has 2; the second argument is 0, which has 1
        int[][] fields = {{4, 3, 1}, {3, 2, 4}, {1, 2, -1}, {0, -1, 1}};
        for (int[] f : fields) {
            x.set(f[0], 1, f[1]);
            x.set(f[0], 2, f[2]);
        }
        x.hand(NODE, 4);
        x.hand(NODE, 0);
        x.call(0, 0, 0);
        x.through(0);
        x.through(0);
        int[][] due = {{104, 6, 8}, {103, 7, 5}, {102, -1, -1}, {101, 7, -1}, {100, -1, 8}};
        CHECK.due("nodes", x.count(5), 10);
        for (int i = 0; i < due.length; i++) {
            for (int f = 0; f < 3; f++) {
                CHECK.due("field(" + (5 + i) + ", " + f + ")", x.field(5 + i, f), due[i][f]);
            }
        }
    }

    /** A record without fields is one byte, and counts. */
    private static void recordsWithoutFields() {
        CHECK.part("records without fields");
        RemoteDesks x = nodesIn("record r{}service s{r a(r,r,r);}", 2);
        x.hand(NODE, 1);
        x.hand(NODE, -1);
        x.hand(NODE, 1);
        x.call(0, 0, 0);
        same("request", Make.bytes(x, 0), "1 0 0 0 1 0 0 0 253 255 254 0");
        x.through(0);
        same("answer", Make.bytes(x, 0), "16 1 0 0 1 0 253");
        CHECK.due("nodes", x.count(5), 3);
        x.through(0);
        CHECK.due("value", x.value(0), 3);
    }

    /** "A MESSAGE goes in PARTS of 24 bytes (the last one of what is left)". */
    private static void partsOf24Bytes() {
        CHECK.part("parts of 24 bytes");
        for (int bytes = 6; bytes <= 54; bytes++) {
            RemoteDesks x = twoDesks("service s{int a(text,text,text);}", Make.ECHO);
            int letters = bytes - 6;
            for (int i = 0; i < 3; i++) {
                int own = Math.min(16, letters);
                letters -= own;
                Make.letters(x, "0123456789abcdef".substring(0, own));
                x.hand(TEXT, 0);
            }
            x.call(0, 0, 0);
            int parts = bytes <= 24 ? 1 : bytes <= 48 ? 2 : 3;
            CHECK.due("parts of " + bytes, x.count(8), parts);
            for (int p = 0; p < parts; p++) {
                int own = p < parts - 1 ? 24 : bytes - 24 * (parts - 1);
                CHECK.due("which", x.slot(p, 3), p);
                CHECK.due("how many", x.slot(p, 4), parts);
                CHECK.due("its last byte", x.slot(p, 4 + own) >= 0 ? 1 : 0, 1);
                CHECK.due("no byte more", x.slot(p, 5 + own), Check.NONE);
            }
        }
    }

    /** An ANSWER goes in PARTS as a REQUEST does. */
    private static void partsOfAnswers() {
        CHECK.part("parts of answers");
        for (int letters = 0; letters <= 16; letters++) {
            RemoteDesks x = twoDesks("record r{long a;text t;}service s{r a(r);}", Make.ECHO);
            x.node(0);
            Make.letters(x, "0123456789abcdef".substring(0, letters));
            x.set(0, 1, 0);
            x.hand(NODE, 0);
            x.call(0, 0, 0);
            while (x.slot(0, 1) == 0) {
                x.through(0);
            }
            // 0, 253, 8 bytes, the length, the letters
            int bytes = 11 + letters;
            CHECK.due("parts of " + bytes, x.count(8), bytes <= 24 ? 1 : 2);
            int last = x.count(8) - 1;
            int own = bytes - 24 * last;
            CHECK.due("its last byte", x.slot(last, 4 + own) >= 0 ? 1 : 0, 1);
            CHECK.due("no byte more", x.slot(last, 5 + own), Check.NONE);
            Make.deliverAll(x);
            CHECK.due("value", x.field((int) x.value(0), 1), letters);
        }
    }

    /** "or 1 and a TREE: of each FAILURE, in order, kind, note (2 bytes), DESK, 1 if it has a cause, else 0, how many are beside it". */
    private static void partsOfTrees() {
        CHECK.part("trees of 1 to 12");
        for (int size = 1; size <= 12; size++) {
            RemoteDesks x = new RemoteDesks();
            Make.describe(x, "service s{int a();}");
            x.desk();
            x.desk();
            for (int i = 0; i < size; i++) {
                x.failure(0, i == 0 ? 999 : i, i - 1);
            }
            x.object(1, 0, Make.FAIL, size - 1, 0);
            x.give(0, 0);
            x.call(0, 0, 0);
            x.through(0);
            int bytes = 1 + 6 * size;
            int parts = (bytes + 23) / 24;
            CHECK.due("parts of a tree of " + size, x.count(8), parts);
            CHECK.due("no byte more", x.slot(parts - 1, 5 + bytes - 24 * (parts - 1)), Check.NONE);
            CHECK.due("the last byte", x.slot(parts - 1, 4 + bytes - 24 * (parts - 1)), 0);
            // the last part first
            for (int i = parts - 1; i >= 0; i--) {
                CHECK.due("not yet", x.tree(0, -1, 0), 0);
                x.through(i);
            }
            CHECK.due("size", x.tree(0, -1, 0), size);
            for (int i = 0; i < size; i++) {
                CHECK.due("note", x.tree(0, i, 1), i == size - 1 ? 999 : size - 1 - i);
                CHECK.due("cause", x.tree(0, i, 3), i == size - 1 ? 0 : 1);
            }
            CHECK.due("one more", x.tree(0, size, 0), Check.UNKNOWN);
        }
    }

    /** "the bytes from times 16 and to (DESKS), what it is, the CALL's number, ..": DESK 7, CALL 59, OBJECT 23, method 7, AGE 200. */
    private static void greatestNumbersInASlot() {
        CHECK.part("the greatest numbers");
        RemoteDesks x = new RemoteDesks();
        Make.describe(x, "service s{int a();int b();int c();int d();int e();int f();int g();s h(s);}");
        for (int i = 0; i < 8; i++) {
            x.desk();
        }
        for (int i = 0; i < 24; i++) {
            x.object(7, 0, Make.ECHO, 0, 0);
        }
        for (int i = 0; i < 200; i++) {
            x.restart(7);
        }
        for (int i = 0; i < 59; i++) {
            x.call(7, 0, 0);
        }
        x.give(6, 23);
        x.hand(OBJECT, 23);
        CHECK.due("call", x.call(6, 23, 7), 59);
        same("request", Make.bytes(x, 0), (6 * 16 + 7) + " 0 59 0 1 23 7 200 23");
        x.through(0);
        same("answer", Make.bytes(x, 0), (7 * 16 + 6) + " 1 59 0 1 0 23");
        x.through(0);
        same("thanks", Make.bytes(x, 0), (6 * 16 + 7) + " 2 59 0 1");
        x.through(0);
        CHECK.due("value", x.value(59), 23);
        CHECK.due("the shelf", x.audit(7, 2), 0);
    }

    /** slot(): "Byte k of SLOT i on the way, 0 .. 255; NONE: it has no such one." */
    private static void bytesOfASlot() {
        CHECK.part("bytes of a slot");
        RemoteDesks x = twoDesks("service s{int a(int);int b(text,int);}", Make.ECHO);
        x.hand(INT, -1);
        x.call(0, 0, 0);
        Make.letters(x, "\u0080\u00ff4567890123456789");
        x.hand(TEXT, 0);
        x.hand(INT, -1);
        x.call(0, 0, 1);
        int[] ends = {12, 29};
        for (int i = 0; i < 2; i++) {
            CHECK.due("the first", x.slot(i, 0), 1);
            CHECK.due("the last", x.slot(i, ends[i] - 1), 255);
            for (int k : new int[] {-1, ends[i], ends[i] + 1, 29, 30, LEAST, GREATEST}) {
                CHECK.due("slot(" + i + ", " + k + ")", x.slot(i, k), Check.NONE);
            }
        }
        CHECK.due("128", x.slot(1, 9), 128);
        CHECK.due("255", x.slot(1, 10), 255);
    }

    /** slot(), through(), lose(), twice(): "UNKNOWN". */
    private static void slotsThatThereAre() {
        CHECK.part("slots that there are");
        RemoteDesks x = twoDesks("service s{int a();}", Make.ECHO);
        for (int n = 0; n <= 2; n++) {
            for (int i : new int[] {-1, n, n + 1, 40, LEAST, GREATEST}) {
                CHECK.due("slot(" + i + ", 0) of " + n, x.slot(i, 0), Check.UNKNOWN);
                CHECK.due("slot(" + i + ", -1) of " + n, x.slot(i, -1), Check.UNKNOWN);
                CHECK.due("through(" + i + ") of " + n, x.through(i), Check.UNKNOWN);
                CHECK.due("lose(" + i + ") of " + n, x.lose(i), Check.UNKNOWN);
                CHECK.due("twice(" + i + ") of " + n, x.twice(i), Check.UNKNOWN);
            }
            CHECK.due("they stay", x.count(8), n);
            x.call(0, 0, 0);
        }
        CHECK.due("the last is lost", x.lose(2), 2);
        CHECK.due("the last comes again", x.twice(1), 3);
        CHECK.due("the last arrives", x.through(2), 3);
        CHECK.due("the first is lost", x.lose(0), 2);
        CHECK.due("lose", x.lose(0), 1);
        CHECK.due("lose the only one", x.lose(0), 0);
        CHECK.due("none is there", x.lose(0), Check.UNKNOWN);
    }

    /** through(): "how many are on the way then": with those that were sent because of it. */
    private static void whatThroughTells() {
        CHECK.part("what through tells");
        RemoteDesks x = twoDesks("service s{int a();}", Make.ECHO);
        x.call(0, 0, 0);
        CHECK.due("a request: its answer", x.through(0), 1);
        x.twice(0);
        CHECK.due("an answer: thanks", x.through(0), 2);
        CHECK.due("thanks: nothing", x.through(1), 1);
        CHECK.due("an answer again: thanks again", x.through(0), 1);
        CHECK.due("thanks: nothing", x.through(0), 0);
    }

    /** "40 at most: with one more the oldest is lost". */
    private static void fortySlots() {
        CHECK.part("40 slots");
        RemoteDesks x = twoDesks("service s{int a();}", Make.ECHO);
        for (int i = 0; i < 60; i++) {
            CHECK.due("call", x.call(0, 0, 0), i);
            CHECK.due("slots", x.count(8), Math.min(40, i + 1));
            CHECK.due("lost", x.count(10), Math.max(0, i - 39));
            CHECK.due("the oldest", x.slot(0, 2), Math.max(0, i - 39));
            CHECK.due("the newest", x.slot(Math.min(39, i), 2), i);
        }
        CHECK.due("slot 40", x.slot(40, 0), Check.UNKNOWN);
        CHECK.due("sent, with those that got lost", x.audit(0, 0), 60);
    }

    /** Each PART is a SLOT: those that are too many take the oldest off the way, one each. */
    private static void allPartsCountAmongForty() {
        CHECK.part("parts among 40");
        RemoteDesks x = twoDesks(ROWS, Make.COUNT);
        Make.row(x, 237);
        for (int i = 0; i < 5; i++) {
            x.hand(NODE, ROW_NODES - 1);
            CHECK.due("call", x.call(0, 0, 0), i);
            CHECK.due("slots", x.count(8), Math.min(40, 10 * (i + 1)));
            CHECK.due("lost", x.count(10), i < 4 ? 0 : 10);
        }
        CHECK.due("the oldest", x.slot(0, 2), 1);
        x.lose(0);
        x.lose(0);
        x.lose(0);
        x.hand(NODE, ROW_NODES - 1);
        CHECK.due("call", x.call(0, 0, 0), 5);
        CHECK.due("slots", x.count(8), 40);
        CHECK.due("7 more are lost", x.count(10), 17);
        CHECK.due("the oldest", x.slot(0, 2), 2);
        CHECK.due("its first part", x.slot(0, 3), 0);
        CHECK.due("sent", x.audit(0, 0), 60);
    }

    /** What follows from a SLOT that arrives is sent when that is on the way no more. */
    private static void answersAmongForty() {
        CHECK.part("an answer among 40");
        RemoteDesks x = new RemoteDesks();
        Make.describe(x, "service s{int a();}");
        x.desk();
        x.desk();
        for (int i = 0; i < 12; i++) {
            x.failure(0, i, i - 1);
        }
        x.object(1, 0, Make.FAIL, 11, 0);
        x.give(0, 0);
        for (int i = 0; i < 40; i++) {
            x.call(0, 0, 0);
        }
        CHECK.due("none is lost", x.count(10), 0);
        CHECK.due("through", x.through(39), 40);
        CHECK.due("one took the room that was free, three did not", x.count(10), 3);
        CHECK.due("the oldest", x.slot(0, 2), 3);
        CHECK.due("the answer's first part", x.slot(36, 3), 0);
        CHECK.due("the answer's last part", x.slot(39, 3), 3);
        CHECK.due("sent by 1", x.audit(1, 0), 4);
    }

    /** REQUESTS that are sent again are among the 40, too. */
    private static void tickAmongForty() {
        CHECK.part("tick among 40");
        RemoteDesks x = twoDesks("service s{int a();}", Make.ECHO);
        for (int i = 0; i < 30; i++) {
            x.call(0, 0, 0);
        }
        x.tick(3);
        CHECK.due("slots", x.count(8), 30);
        x.tick(1);
        CHECK.due("slots", x.count(8), 40);
        CHECK.due("lost", x.count(10), 20);
        CHECK.due("the oldest", x.slot(0, 2), 20);
        CHECK.due("then those again", x.slot(10, 2), 0);
        CHECK.due("the newest", x.slot(39, 2), 29);
        x.tick(32);
        CHECK.due("slots", x.count(8), 40);
        CHECK.due("lost", x.count(10), 30 * 9 - 40);
        CHECK.due("sent", x.audit(0, 0), 30 * 9);
        CHECK.due("sent again", x.audit(0, 1), 30 * 8);
    }

    /** twice(): "comes on the way as well, behind all (no DESK sent it): how many are then". */
    private static void twiceAmongForty() {
        CHECK.part("twice among 40");
        RemoteDesks x = twoDesks("service s{int a();}", Make.ECHO);
        for (int i = 0; i < 39; i++) {
            x.call(0, 0, 0);
        }
        CHECK.due("the 40th", x.twice(0), 40);
        CHECK.due("none is lost", x.count(10), 0);
        CHECK.due("one more, of the last", x.twice(39), 40);
        CHECK.due("one is lost", x.count(10), 1);
        CHECK.due("the oldest", x.slot(0, 2), 1);
        CHECK.due("one more, of the oldest", x.twice(0), 40);
        CHECK.due("the oldest", x.slot(0, 2), 2);
        CHECK.due("it is behind all", x.slot(39, 2), 1);
        CHECK.due("two are lost", x.count(10), 2);
        CHECK.due("sent", x.audit(0, 0), 39);
        CHECK.due("twice(40)", x.twice(40), Check.UNKNOWN);
    }

    /** One like SLOT i is as any other. */
    private static void twiceOfATwice() {
        CHECK.part("twice of a twice");
        RemoteDesks x = twoDesks("service s{int a(int);}", Make.COUNT);
        x.hand(INT, 77);
        x.call(0, 0, 0);
        CHECK.due("twice", x.twice(0), 2);
        CHECK.due("twice", x.twice(1), 3);
        x.lose(0);
        x.lose(0);
        same("its bytes", Make.bytes(x, 0), "1 0 0 0 1 0 0 0 0 0 0 77");
        Make.deliverAll(x);
        CHECK.due("value", x.value(0), 77);
        CHECK.due("about(0, 4)", x.about(0, 4), 1);
    }

    /** count(10): "SLOTS that got lost because there were 40". */
    private static void lostByLoseIsNotCounted() {
        CHECK.part("lost because there were 40");
        RemoteDesks x = twoDesks("service s{int a();}", Make.ECHO);
        for (int i = 0; i < 41; i++) {
            x.call(0, 0, 0);
        }
        for (int i = 40; i > 0; i--) {
            CHECK.due("lose", x.lose(i - 1), i - 1);
        }
        CHECK.due("count", x.count(10), 1);
    }

    /** "REFERENCES that come are given to the DESK (those that it HOSTS are not)". */
    private static void hostedAreNotGiven() {
        CHECK.part("references that come");
        RemoteDesks x = twoDesks("service s{s a(s,s);}", Make.ECHO);
        x.object(0, 0, Make.ECHO, 0, 0);
        x.desk();
        x.object(2, 0, Make.ECHO, 0, 0);
        x.restart(2);
        x.hand(OBJECT, 0);
        x.hand(OBJECT, 2);
        x.call(0, 0, 0);
        x.release(0, 0);
        x.through(0);
        CHECK.due("at its host", x.reference(1, 0), Check.NONE);
        CHECK.due("not at its host", x.reference(1, 2), 1);
        CHECK.due("not at the caller", x.reference(0, 2), Check.NONE);
        x.through(0);
        CHECK.due("what was answered", x.reference(0, 0), 0);
        CHECK.due("what was not", x.reference(0, 2), Check.NONE);
        x.hand(OBJECT, 1);
        x.hand(OBJECT, 1);
        x.call(0, 0, 0);
        Make.deliverAll(x);
        CHECK.due("the caller's own", x.reference(0, 1), Check.NONE);
        CHECK.due("at the other", x.reference(1, 1), 0);
    }

    /** "255 for nothing": no REFERENCE, no NODE. */
    private static void nothingIsNotGiven() {
        CHECK.part("nothing comes");
        RemoteDesks x = twoDesks("service s{}record r{s a;r b;}service t{r a(r,s);}", Make.ECHO);
        x.object(1, 1, Make.ECHO, 0, 0);
        x.give(0, 1);
        x.node(0);
        x.hand(NODE, 0);
        x.hand(OBJECT, -1);
        x.call(0, 1, 0);
        same("request", Make.bytes(x, 0), "1 0 0 0 1 1 0 0 253 255 255 255");
        Make.deliverAll(x);
        CHECK.due("nodes", x.count(5), 3);
        CHECK.due("held", x.told(0, 1) + x.told(1, 1), 2);
        CHECK.due("field", x.field(2, 0), -1);
        CHECK.due("field", x.field(2, 1), -1);
        x.hand(NODE, -1);
        x.hand(OBJECT, -1);
        x.call(0, 1, 0);
        Make.deliverAll(x);
        CHECK.due("nodes", x.count(5), 3);
        CHECK.due("value", x.value(1), -1);
    }
}
