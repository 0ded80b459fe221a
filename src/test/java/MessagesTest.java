/** Messages as bytes, parts and slots (part 6), and promises 23 and 29 to 32. */
public final class MessagesTest {
    private static final Check CHECK = new Check();
    private static final int INT = 0, LONG = 1, DOUBLE = 2, BOOLEAN = 3, TEXT = 4;

    public static void main(String[] args) {
        callRefusals();
        numbers();
        texts();
        nodes();
        objectsInNodes();
        parts();
        greatestRequest();
        tooManyNodes();
        answers();
        greatestAnswer();
        trees();
        slots();
        lose();
        twice();
        fortySlots();
        CHECK.end();
    }

    private static void same(String what, String got, String want) {
        if (!got.equals(want)) {
            System.out.println(what + ": " + got + ", due is " + want);
        }
        CHECK.due(what, got.equals(want) ? 1 : 0, 1);
    }

    /** Desk 1 hosts an object of each service; desk 0 holds them. */
    private static RemoteDesks twoDesks(int deed) {
        RemoteDesks x = Make.withDesks(2);
        for (int s = 0; s < 3; s++) {
            x.object(1, s, deed, 0, 0);
            x.give(0, s);
        }
        return x;
    }

    private static void callRefusals() {
        CHECK.part("call's refusals");
        RemoteDesks x = Make.withDesks(2);
        x.object(1, 0, Make.ECHO, 0, 0);
        x.hand(INT, 1);
        CHECK.due("desk 2", x.call(2, 0, 0), Check.UNKNOWN);
        CHECK.due("desk -1", x.call(-1, 0, 0), Check.UNKNOWN);
        CHECK.due("object 1", x.call(0, 1, 0), Check.UNKNOWN);
        CHECK.due("object -1", x.call(0, -1, 0), Check.UNKNOWN);
        CHECK.due("method -1", x.call(1, 0, -1), Check.UNKNOWN);
        CHECK.due("method 8", x.call(1, 0, 8), Check.UNKNOWN);
        CHECK.due("no reference", x.call(0, 0, 0), Check.NOT);
        x.give(0, 0);
        CHECK.due("too few", x.call(0, 0, 0), Check.NOT);
        x.hand(LONG, 1);
        CHECK.due("other sorts", x.call(0, 0, 0), Check.NOT);
        CHECK.due("other sorts at the host", x.call(1, 0, 0), Check.NOT);
        CHECK.due("the hand stays", x.open(), 2);
        x.hand(BOOLEAN, 1);
        x.hand(INT, 1);
        CHECK.due("another first sort", x.call(0, 0, 0), Check.NOT);
        x.open();
        x.hand(INT, 1);
        x.hand(INT, 1);
        x.hand(INT, 1);
        CHECK.due("too many", x.call(0, 0, 0), Check.NOT);
        x.open();
        x.hand(INT, 1);
        x.hand(INT, 2);
        x.release(0, 0);
        CHECK.due("released", x.call(0, 0, 0), Check.NOT);
        x.give(0, 0);
        CHECK.due("no call yet", x.count(7), 0);
        CHECK.due("call", x.call(0, 0, 0), 0);
        CHECK.due("the hand is empty", x.open(), 0);
        CHECK.due("state", x.state(0), 0);
        CHECK.due("value", x.value(0), Check.NONE);
        int[] about = {0, 0, 0, -1, 1, 0};
        for (int what = 0; what < about.length; what++) {
            CHECK.due("about(0, " + what + ")", x.about(0, what), about[what]);
        }
        RemoteDesks y = Make.withDesks(1);
        y.object(0, 2, Make.ECHO, 0, 0);
        CHECK.due("a service of 4 methods", y.call(0, 0, 4), Check.UNKNOWN);
    }

    private static void numbers() {
        CHECK.part("numbers in a request");
        RemoteDesks x = twoDesks(Make.ECHO);
        x.restart(1);
        x.restart(1);
        x.give(0, 0);
        x.hand(INT, -2);
        x.hand(LONG, 0x0102030405060708L);
        x.hand(BOOLEAN, 1);
        x.call(0, 0, 1);
        same("request", Make.bytes(x, 0), "1 0 0 0 1 0 1 2 255 255 255 254 1 2 3 4 5 6 7 8 1");
        x.hand(DOUBLE, -2);
        x.call(0, 0, 2);
        same("request", Make.bytes(x, 1), "1 0 1 0 1 0 2 2 255 255 255 255 255 255 255 254");
        CHECK.due("slot(0, 20)", x.slot(0, 20), 1);
        CHECK.due("slot(0, 21)", x.slot(0, 21), Check.NONE);
        CHECK.due("slot(0, -1)", x.slot(0, -1), Check.NONE);
        CHECK.due("slot(2, 0)", x.slot(2, 0), Check.UNKNOWN);
        CHECK.due("slot(-1, 0)", x.slot(-1, 0), Check.UNKNOWN);
        Make.deliverAll(x);
        CHECK.due("value", x.value(0), 0x0102030405060708L);
        CHECK.due("value", x.value(1), -2);
    }

    private static void texts() {
        CHECK.part("texts in a request");
        RemoteDesks x = twoDesks(Make.ECHO);
        Make.letters(x, "ab\u00fe");
        x.hand(TEXT, 0);
        x.call(0, 0, 4);
        same("text", Make.bytes(x, 0), "1 0 0 0 1 0 4 0 3 97 98 254");
        x.hand(TEXT, 0);
        x.call(0, 0, 4);
        same("empty text", Make.bytes(x, 1), "1 0 1 0 1 0 4 0 0");
        x.hand(TEXT, -1);
        x.call(0, 0, 4);
        same("no text", Make.bytes(x, 2), "1 0 2 0 1 0 4 0 255");
        Make.deliverAll(x);
        CHECK.due("text", x.value(0), 3);
        CHECK.due("its byte", x.letterOf(0, 2), 254);
        CHECK.due("empty text", x.value(1), 0);
        CHECK.due("no text", x.value(2), -1);
    }

    private static void nodes() {
        CHECK.part("nodes in a request");
        RemoteDesks x = twoDesks(Make.ECHO);
        x.node(1);
        x.node(0);
        x.node(0);
        x.set(0, 1, 2);
        x.set(2, 5, 1);
        x.set(1, 5, 1);
        x.set(1, 0, 7);
        x.set(2, 0, 8);
        x.set(0, 2, 9);
        x.hand(Make.PAIR, 2);
        x.hand(Make.PAIR, 1);
        x.hand(Make.BOX, 0);
        CHECK.due("call", x.call(0, 1, 3), 0);
        CHECK.due("parts", x.count(8), 3);
        String zeros = "0 0 0 0 0 0 0 0 ";
        same("part 0", Make.bytes(x, 0), "1 0 0 0 3 1 3 0 253 0 0 0 8 " + zeros + "0 0 0 0 0 0 0 0");
        same("part 1", Make.bytes(x, 1), "1 0 0 1 3 0 255 253 0 0 0 7 " + zeros + zeros + "0");
        same("part 2", Make.bytes(x, 2), "1 0 0 2 3 255 254 1 254 1 253 255 254 0 0 0 0 9");
        x.set(1, 0, 70);
        Make.deliverAll(x);
        CHECK.due("state", x.state(0), 1);
        CHECK.due("nodes", x.count(5), 3 + 3 + 2);
        long[][] due = {{3, 0, 8}, {3, 5, 4}, {4, 0, 7}, {4, 5, 4}, {5, 0, -1}, {5, 1, 3}, {5, 2, 9}, {6, 0, 8}, {6, 5, 7},
            {7, 0, 7}, {7, 5, 7}};
        for (long[] row : due) {
            CHECK.due("field(" + row[0] + ", " + row[1] + ")", x.field((int) row[0], (int) row[1]), row[2]);
        }
        CHECK.due("value", x.value(0), 6);
    }

    private static void objectsInNodes() {
        CHECK.part("references in nodes");
        RemoteDesks x = Make.withDesks(3);
        x.object(1, 1, Make.ECHO, 0, 0);
        x.object(2, 0, Make.ECHO, 0, 0);
        x.object(1, 0, Make.ECHO, 0, 0);
        x.give(0, 0);
        x.restart(2);
        x.node(1);
        x.set(0, 0, 1);
        x.hand(Make.BOX, 0);
        x.call(0, 0, 0);
        same("request", Make.bytes(x, 0), "1 0 0 0 1 0 0 0 253 1 255 0 0 0 0");
        CHECK.due("not yet", x.reference(1, 1), Check.NONE);
        x.restart(2);
        x.through(0);
        CHECK.due("given as it came", x.reference(1, 1), 2);
        CHECK.due("holders", x.told(1, 1), 1);
        CHECK.due("the caller did not hold it", x.reference(0, 1), Check.NONE);
        x.restart(2);
        x.through(0);
        CHECK.due("given as the answer came", x.reference(0, 1), 3);
        CHECK.due("the other knows what it knew", x.reference(1, 1), 2);
        CHECK.due("nodes", x.count(5), 3);
        CHECK.due("its object", x.field(2, 0), 1);
        // what a desk hosts is not given to it
        x.set(0, 0, 2);
        x.hand(Make.BOX, 0);
        x.call(0, 0, 0);
        Make.deliverAll(x);
        CHECK.due("at the host", x.reference(1, 2), Check.NONE);
        CHECK.due("at the caller", x.reference(0, 2), 0);
        CHECK.due("holders", x.told(2, 1), 1);
        // given again with a greater age
        x.restart(1);
        x.give(0, 0);
        x.set(0, 0, 2);
        x.hand(Make.BOX, 0);
        x.call(0, 0, 0);
        CHECK.due("as before", x.reference(0, 2), 0);
        Make.deliverAll(x);
        CHECK.due("given last", x.reference(0, 2), 1);
    }

    private static void parts() {
        CHECK.part("parts of 24 bytes");
        for (int n = 0; n <= 16; n++) {
            RemoteDesks y = twoDesks(Make.ECHO);
            y.node(0);
            y.node(0);
            y.set(0, 5, 1);
            Make.letters(y, "0123456789abcdef".substring(0, n));
            y.set(0, 4, 0);
            Make.letters(y, "0123456789abcdef".substring(0, n));
            y.set(1, 4, 0);
            y.hand(Make.PAIR, 0);
            y.call(0, 0, 5);
            int bytes = 3 + 2 * (23 + n) + 1;
            CHECK.due("parts of " + bytes, y.count(8), (bytes + 23) / 24);
            CHECK.due("how many it says", y.slot(0, 4), (bytes + 23) / 24);
            CHECK.due("which the last is", y.slot(y.count(8) - 1, 3), (bytes + 23) / 24 - 1);
            Make.deliverAll(y);
            CHECK.due("state", y.state(0), 1);
            CHECK.due("text", y.field((int) y.value(0), 4), n);
        }
        exactParts();
    }

    /** A request of just 24 and one of just 48 bytes. */
    private static void exactParts() {
        RemoteDesks x = new RemoteDesks();
        CHECK.due("describe", Make.describe(x, "service s { int m(text, int); int n(text, text, long); }"), 1);
        x.desk();
        x.desk();
        x.object(1, 0, Make.ECHO, 0, 0);
        x.give(0, 0);
        Make.letters(x, "0123456789abcdef");
        x.hand(TEXT, 0);
        x.hand(INT, 5);
        x.call(0, 0, 0);
        CHECK.due("24 bytes", x.count(8), 1);
        CHECK.due("slot(0, 28)", x.slot(0, 28), 5);
        CHECK.due("slot(0, 29)", x.slot(0, 29), Check.NONE);
        Make.letters(x, "0123456789abcdef");
        x.hand(TEXT, 0);
        Make.letters(x, "0123456789abcdef");
        x.hand(TEXT, 0);
        x.hand(LONG, 6);
        x.call(0, 0, 1);
        CHECK.due("45 bytes", x.count(8), 3);
        Make.deliverAll(x);
        CHECK.due("value", x.value(0), 5);
        CHECK.due("value", x.value(1), 0);
    }

    /** An object at desk 1 whose method takes a row of nodes, each of which has the one made ahead of it. */
    private static RemoteDesks rowOf(int nodes) {
        RemoteDesks x = new RemoteDesks();
        Make.describe(x, "record r { text t; r n; } service s { r m(r); }");
        x.desk();
        x.desk();
        x.object(1, 0, Make.ECHO, 0, 0);
        x.give(0, 0);
        for (int i = 0; i < nodes; i++) {
            x.node(0);
            x.set(i, 1, i - 1);
        }
        return x;
    }

    private static void greatestRequest() {
        CHECK.part("a request of 240 bytes and more");
        RemoteDesks x = new RemoteDesks();
        Make.describe(x, "record r { text a; text b; text c; r n; } service s { int m(r); r k(r); int g(r, int); int h(r, boolean); }");
        x.desk();
        x.desk();
        x.object(1, 0, Make.COUNT, 0, 0);
        x.object(0, 0, Make.COUNT, 0, 0);
        x.give(0, 0);
        longRow(x);
        x.hand(10, 4);
        CHECK.due("just 240", x.call(0, 0, 0), 0);
        CHECK.due("parts", x.count(8), 10);
        CHECK.due("the last is full", x.slot(9, 28), 255);
        x.hand(10, 4);
        x.hand(BOOLEAN, 1);
        CHECK.due("241", x.call(0, 0, 3), Check.FULL);
        CHECK.due("calls", x.count(7), 1);
        CHECK.due("slots", x.count(8), 10);
        CHECK.due("the host itself may", x.call(1, 0, 3), 1);
        CHECK.due("the hand went", x.open(), 0);
        x.hand(10, 4);
        x.hand(INT, 1);
        CHECK.due("244", x.call(0, 0, 2), Check.FULL);
        CHECK.due("the hand stays", x.open(), 2);
        textAtTheEnd();
    }

    /** 3 + 4 * 52 + 1 bytes, then two texts: the last one ends ahead of the edge, at it or behind it. */
    private static void textAtTheEnd() {
        for (int letters = 0; letters <= 16; letters++) {
            RemoteDesks x = new RemoteDesks();
            Make.describe(x, "record r { text a; text b; text c; r n; } service s { int m(r, text, text); }");
            x.desk();
            x.desk();
            x.object(1, 0, Make.COUNT, 0, 0);
            x.give(0, 0);
            longRow(x);
            x.hand(10, 3);
            Make.letters(x, "0123456789abc");
            x.hand(TEXT, 0);
            Make.letters(x, "0123456789abcdef".substring(0, letters));
            x.hand(TEXT, 0);
            CHECK.due("227 and " + letters, x.call(0, 0, 0), 227 + letters <= 240 ? 0 : Check.FULL);
            Make.deliverAll(x);
            CHECK.due("its deed", x.told(0, 2), 227 + letters <= 240 ? 1 : 0);
        }
    }

    /** A row of nodes: 4 of 52 bytes (253, three texts), the last made of 28, a byte for the row's end: 237. */
    private static void longRow(RemoteDesks x) {
        for (int i = 0; i < 5; i++) {
            x.node(0);
            x.set(i, 3, i - 1);
            for (int f = 0; f < 3; f++) {
                Make.letters(x, i < 4 ? "0123456789abcdef" : f == 0 ? "0123456789abcdef" : f == 1 ? "01234567" : "");
                x.set(i, f, 0);
            }
        }
    }

    private static void tooManyNodes() {
        CHECK.part("12 nodes and more");
        RemoteDesks x = rowOf(12);
        x.hand(10, 11);
        CHECK.due("12", x.call(0, 0, 0), 0);
        Make.deliverAll(x);
        CHECK.due("state", x.state(0), 1);
        CHECK.due("nodes", x.count(5), 36);
        x = rowOf(13);
        x.hand(10, 12);
        CHECK.due("13", x.call(0, 0, 0), Check.FULL);
        CHECK.due("the hand stays", x.open(), 1);
        x.set(0, 1, 11);
        x.hand(10, 11);
        CHECK.due("a ring of 12", x.call(0, 0, 0), 0);
        x.set(0, 1, 12);
        x.hand(10, 11);
        CHECK.due("a ring of 13", x.call(0, 0, 0), Check.FULL);
        CHECK.due("at the host", x.call(1, 0, 0), 1);
        CHECK.due("value", x.value(1), 11);
    }

    private static void answers() {
        CHECK.part("answers");
        RemoteDesks x = twoDesks(Make.COUNT);
        x.hand(INT, 300);
        x.hand(INT, -1);
        x.call(0, 0, 0);
        CHECK.due("through", x.through(0), 1);
        same("answer", Make.bytes(x, 0), "16 1 0 0 1 0 0 0 1 43");
        CHECK.due("through", x.through(0), 1);
        same("thanks", Make.bytes(x, 0), "1 2 0 0 1");
        CHECK.due("state", x.state(0), 1);
        CHECK.due("value", x.value(0), 299);
        CHECK.due("on the shelf", x.audit(1, 2), 1);
        CHECK.due("through", x.through(0), 0);
        CHECK.due("off the shelf", x.audit(1, 2), 0);
        CHECK.due("begun", x.about(0, 5), 1);
        x.hand(BOOLEAN, 1);
        x.call(0, 0, 3);
        x.through(0);
        same("boolean", Make.bytes(x, 0), "16 1 1 0 1 0 1");
        x.lose(0);
        x.hand(Make.PLAIN, 0);
        x.call(0, 0, 6);
        x.through(0);
        same("nothing", Make.bytes(x, 0), "16 1 2 0 1 0 255");
    }

    /** An answer has always less than what it answers, so none is TOO GREAT: the greatest comes home whole. */
    private static void greatestAnswer() {
        CHECK.part("the greatest answer");
        RemoteDesks x = new RemoteDesks();
        Make.describe(x, "record r { text a; text b; text c; r n; } service s { r k(r); }");
        x.desk();
        x.desk();
        x.object(1, 0, Make.ECHO, 0, 0);
        x.give(0, 0);
        longRow(x);
        x.hand(10, 4);
        CHECK.due("call", x.call(0, 0, 0), 0);
        for (int i = 0; i < 9; i++) {
            x.through(0);
        }
        CHECK.due("kept", x.audit(1, 5), 9);
        x.through(0);
        CHECK.due("the answer's parts", x.count(8), 10);
        CHECK.due("the last has 22 bytes", x.slot(9, 26), 255);
        CHECK.due("the last has 22 bytes", x.slot(9, 27), Check.NONE);
        Make.deliverAll(x);
        CHECK.due("state", x.state(0), 1);
        CHECK.due("value", x.value(0), 10);
        CHECK.due("nodes", x.count(5), 15);
        for (int i = 0; i < 5; i++) {
            for (int f = 0; f < 3; f++) {
                CHECK.due("length", x.field(10 + i, f), x.field(4 - i, f));
            }
            CHECK.due("next", x.field(10 + i, 3), i == 4 ? -1 : 11 + i);
        }
    }

    private static void trees() {
        CHECK.part("trees");
        RemoteDesks x = Make.withDesks(3);
        x.failure(1, 1, -1);
        x.failure(2, 258, -1);
        x.failure(3, 999, 0);
        x.beside(2, 1);
        x.beside(2, 0);
        x.failure(4, 0, 2);
        x.object(2, 0, Make.FAIL, 3, 0);
        x.give(0, 0);
        x.call(0, 0, 7);
        x.through(0);
        same("part 0", Make.bytes(x, 0), "32 1 0 0 2 1 4 0 0 2 1 0 3 3 231 2 1 2 1 0 1 2 0 0 2 1 2 2 0");
        same("part 1", Make.bytes(x, 1), "32 1 0 1 2 0 1 0 1 2 0 0");
        x.knows(0, 3, false);
        x.knows(0, 2, false);
        x.knows(0, 4, false);
        x.knows(2, 1, false);
        Make.deliverAll(x);
        int[][] due = {{0, 0, 2, 1, 0}, {1, 999, 2, 1, 2}, {1, 1, 2, 0, 0}, {1, 258, 2, 0, 0}, {1, 1, 2, 0, 0}};
        CHECK.due("state", x.state(0), 2);
        CHECK.due("size", x.tree(0, -1, 7), due.length);
        for (int i = 0; i < due.length; i++) {
            for (int what = 0; what < 5; what++) {
                CHECK.due("tree(0, " + i + ", " + what + ")", x.tree(0, i, what), due[i][what]);
            }
        }
        x.knows(0, 1, false);
        x.call(0, 0, 7);
        Make.deliverAll(x);
        for (int i = 0; i < due.length; i++) {
            CHECK.due("none is known", x.tree(1, i, 0), 0);
            CHECK.due("as it came", x.tree(0, i, 0), due[i][0]);
        }
        x.knows(0, 2, true);
        x.call(0, 0, 7);
        Make.deliverAll(x);
        int[] kinds = {0, 2, 0, 2, 0};
        for (int i = 0; i < kinds.length; i++) {
            CHECK.due("the nearest", x.tree(2, i, 0), kinds[i]);
        }
    }

    private static void slots() {
        CHECK.part("through");
        RemoteDesks x = twoDesks(Make.ECHO);
        CHECK.due("through(0) of none", x.through(0), Check.UNKNOWN);
        for (int i = 0; i < 3; i++) {
            x.hand(INT, i);
            x.hand(INT, i);
            x.call(0, 0, 0);
        }
        CHECK.due("through(-1)", x.through(-1), Check.UNKNOWN);
        CHECK.due("through(3)", x.through(3), Check.UNKNOWN);
        CHECK.due("the middle one", x.through(1), 3);
        CHECK.due("what is where", x.slot(0, 2), 0);
        CHECK.due("what is where", x.slot(1, 2), 2);
        CHECK.due("the answer is behind all", x.slot(2, 2), 1);
        CHECK.due("it is an answer", x.slot(2, 1), 1);
        CHECK.due("through", x.through(2), 3);
        CHECK.due("thanks", x.slot(2, 1), 2);
        CHECK.due("state", x.state(1), 1);
        CHECK.due("state", x.state(0), 0);
    }

    private static void lose() {
        CHECK.part("lose");
        RemoteDesks x = twoDesks(Make.ECHO);
        CHECK.due("lose(0) of none", x.lose(0), Check.UNKNOWN);
        for (int i = 0; i < 3; i++) {
            x.hand(INT, i);
            x.hand(INT, i);
            x.call(0, 0, 0);
        }
        CHECK.due("lose(-1)", x.lose(-1), Check.UNKNOWN);
        CHECK.due("lose(3)", x.lose(3), Check.UNKNOWN);
        CHECK.due("lose(1)", x.lose(1), 2);
        CHECK.due("what is where", x.slot(0, 2), 0);
        CHECK.due("what is where", x.slot(1, 2), 2);
        Make.deliverAll(x);
        CHECK.due("state", x.state(0), 1);
        CHECK.due("state", x.state(1), 0);
        CHECK.due("state", x.state(2), 1);
        CHECK.due("not lost of 40", x.count(10), 0);
    }

    private static void twice() {
        CHECK.part("twice");
        RemoteDesks x = twoDesks(Make.COUNT);
        CHECK.due("twice(0) of none", x.twice(0), Check.UNKNOWN);
        x.hand(INT, 5);
        x.hand(INT, 6);
        x.call(0, 0, 0);
        x.hand(INT, 7);
        x.hand(INT, 8);
        x.call(0, 0, 0);
        CHECK.due("twice(-1)", x.twice(-1), Check.UNKNOWN);
        CHECK.due("twice(2)", x.twice(2), Check.UNKNOWN);
        CHECK.due("twice(0)", x.twice(0), 3);
        same("its bytes", Make.bytes(x, 2), Make.bytes(x, 0));
        CHECK.due("no desk sent it", x.audit(0, 0), 2);
        CHECK.due("nor its request", x.about(0, 4), 1);
        CHECK.due("nor again", x.audit(0, 1), 0);
        Make.deliverAll(x);
        CHECK.due("once", x.told(0, 3), 26);
        CHECK.due("begun", x.told(0, 2), 2);
    }

    private static void fortySlots() {
        CHECK.part("40 slots");
        RemoteDesks x = twoDesks(Make.ECHO);
        for (int i = 0; i < 40; i++) {
            x.hand(INT, i);
            x.hand(INT, i);
            CHECK.due("call", x.call(0, 0, 0), i);
        }
        CHECK.due("slots", x.count(8), 40);
        CHECK.due("lost", x.count(10), 0);
        x.hand(INT, 40);
        x.hand(INT, 40);
        CHECK.due("call", x.call(0, 0, 0), 40);
        CHECK.due("slots", x.count(8), 40);
        CHECK.due("lost", x.count(10), 1);
        CHECK.due("the oldest is lost", x.slot(0, 2), 1);
        CHECK.due("the newest", x.slot(39, 2), 40);
        CHECK.due("sent", x.audit(0, 0), 41);
        CHECK.due("twice the oldest", x.twice(0), 40);
        CHECK.due("lost", x.count(10), 2);
        CHECK.due("the oldest", x.slot(0, 2), 2);
        CHECK.due("the newest", x.slot(39, 2), 1);
        CHECK.due("sent", x.audit(0, 0), 41);
        CHECK.due("lose", x.lose(39), 39);
        CHECK.due("twice the newest", x.twice(38), 40);
        CHECK.due("lost", x.count(10), 2);
        CHECK.due("through keeps 40", x.through(0), 40);
        CHECK.due("lost", x.count(10), 2);
        CHECK.due("its answer", x.slot(39, 1), 1);
        CHECK.due("sent by 1", x.audit(1, 0), 1);
    }
}
