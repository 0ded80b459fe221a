/** Part 3 of the document and promises 7 to 13, one test for each sentence that names an edge. */
public final class ValuesEdgesTest {
    private static final Check CHECK = new Check();
    private static final int INT = 0, LONG = 1, DOUBLE = 2, BOOLEAN = 3, TEXT = 4;
    private static final long LEAST_INT = Integer.MIN_VALUE, GREATEST_INT = Integer.MAX_VALUE;
    private static final long[] WILD = {Long.MIN_VALUE, Long.MAX_VALUE, LEAST_INT, GREATEST_INT, 1L << 32, -(1L << 32), -2};
    /** 6 records, the last with a field of each SORT; 8 services, the last with a method for each SORT. */
    private static final String GREAT = "record ra{}record rb{}record rc{}record rd{}record re{int a;}"
        + "service sa{}service sb{}service sc{}service sd{}service se{}service sf{}service sg{}"
        + "record rf{rf a;sg b;text c;int d;long e;double f;}service sh{rf a(rf);sg b(sg);sh c(sh);text d(text);boolean e(boolean);}";

    public static void main(String[] args) {
        sortsThatThereAre();
        sortsWithoutABook();
        sixtyNodes();
        recordsOfNodes();
        zeroAtFirst();
        ints();
        longs();
        doubles();
        booleans();
        nothingAndLetters();
        textsOfEachLength();
        nodesOfFields();
        objectsOfFields();
        fieldsThatThereAre();
        toldAsARefusal();
        bytesOfTexts();
        sixteenLetters();
        lowestEightBits();
        threeValues();
        handOfEachSort();
        openTellsHowMany();
        theSameNode();
        CHECK.end();
    }

    private static RemoteDesks great() {
        RemoteDesks x = new RemoteDesks();
        CHECK.due("describe", Make.describe(x, GREAT), 8);
        x.desk();
        return x;
    }

    /** "Each has a SORT: 0 .. 4, 10 + r, 20 + s"; hand(): "OUTSIDE: no such SORT". */
    private static void sortsThatThereAre() {
        CHECK.part("sorts");
        RemoteDesks x = great();
        for (int sort = -3; sort <= 40; sort++) {
            boolean is = sort >= 0 && sort <= 4 || sort >= 10 && sort <= 15 || sort >= 20 && sort <= 27;
            long zero = sort >= 4 ? -1 : 0;
            CHECK.due("hand(" + sort + ", " + zero + ")", x.hand(sort, zero), is ? 1 : Check.OUTSIDE);
            CHECK.due("open()", x.open(), is ? 1 : 0);
        }
        for (int sort : new int[] {Integer.MIN_VALUE, Integer.MAX_VALUE, 256, 1 << 16, -100001}) {
            CHECK.due("hand(" + sort + ", 0)", x.hand(sort, 0), Check.OUTSIDE);
            CHECK.due("hand(" + sort + ", -1)", x.hand(sort, -1), Check.OUTSIDE);
        }
    }

    /** Records and services are those of THE BOOK alone. */
    private static void sortsWithoutABook() {
        CHECK.part("sorts without a book");
        RemoteDesks x = new RemoteDesks();
        for (int sort = 0; sort <= 40; sort++) {
            CHECK.due("hand(" + sort + ", -1)", x.hand(sort, -1), sort <= 4 && sort != BOOLEAN ? 1 : Check.OUTSIDE);
            x.open();
        }
        CHECK.due("node(0)", x.node(0), Check.UNKNOWN);
        Make.describe(x, "record");
        CHECK.due("behind a fault", x.hand(10, -1), Check.OUTSIDE);
        Make.describe(x, "record r{}");
        CHECK.due("behind a book", x.hand(10, -1), 1);
        CHECK.due("one more", x.hand(11, -1), Check.OUTSIDE);
        CHECK.due("no service", x.hand(20, -1), Check.OUTSIDE);
    }

    /** "NODES (60 at most)"; node(): "FULL". */
    private static void sixtyNodes() {
        CHECK.part("60 nodes");
        RemoteDesks x = great();
        for (int i = 0; i < 59; i++) {
            x.node(5);
        }
        CHECK.due("node 59", x.node(5), 59);
        CHECK.due("one more", x.node(5), Check.FULL);
        CHECK.due("of another record", x.node(0), Check.FULL);
        CHECK.due("count", x.count(5), 60);
        CHECK.due("the last one's field", x.set(59, 3, 7), 1);
        CHECK.due("the last one's field", x.field(59, 3), 7);
        CHECK.due("60 has none", x.set(60, 3, 7), Check.UNKNOWN);
        CHECK.due("60 has none", x.field(60, 3), Check.UNKNOWN);
        CHECK.due("the last one as value", x.set(0, 0, 59), 1);
        CHECK.due("60 as value", x.set(0, 0, 60), Check.OUTSIDE);
    }

    /** node(): "UNKNOWN" (a record that there is not). */
    private static void recordsOfNodes() {
        CHECK.part("records of nodes");
        RemoteDesks x = great();
        for (int r = 0; r < 6; r++) {
            CHECK.due("node(" + r + ")", x.node(r), r);
        }
        for (int r : new int[] {-1, 6, 7, 10, Integer.MIN_VALUE, Integer.MAX_VALUE}) {
            CHECK.due("node(" + r + ")", x.node(r), Check.UNKNOWN);
        }
        CHECK.due("count", x.count(5), 6);
    }

    /** "their fields are ZERO at first"; "ZERO of a SORT is 0, or nothing". */
    private static void zeroAtFirst() {
        CHECK.part("zero at first");
        RemoteDesks x = great();
        x.node(5);
        x.node(4);
        long[] due = {-1, -1, -1, 0, 0, 0};
        for (int f = 0; f < due.length; f++) {
            CHECK.due("field " + f, x.field(0, f), due[f]);
        }
        CHECK.due("an int", x.field(1, 0), 0);
        CHECK.due("no byte", x.letterAt(0, 2, 0), Check.NONE);
    }

    private static void setAndLook(RemoteDesks x, int field, long v, boolean good) {
        long before = x.field(0, field);
        CHECK.due("set " + v, x.set(0, field, v), good ? 1 : Check.OUTSIDE);
        CHECK.due("field behind set " + v, x.field(0, field), good ? v : before);
        x.open();
        int[] sorts = {15, 26, TEXT, INT, LONG, DOUBLE};
        CHECK.due("hand " + v, x.hand(sorts[field], v), good ? 1 : Check.OUTSIDE);
        CHECK.due("open behind hand " + v, x.open(), good ? 1 : 0);
    }

    /** "0 int"; set(): "OUTSIDE: v is not of the SORT". */
    private static void ints() {
        CHECK.part("ints");
        RemoteDesks x = great();
        x.node(5);
        long[] good = {0, 1, -1, GREATEST_INT, LEAST_INT, GREATEST_INT - 1, LEAST_INT + 1, -100001, -100004};
        for (long v : good) {
            setAndLook(x, 3, v, true);
        }
        long[] wrong = {GREATEST_INT + 1, LEAST_INT - 1, 1L << 32, -(1L << 32), (1L << 32) - 1, Long.MAX_VALUE, Long.MIN_VALUE};
        for (long v : wrong) {
            setAndLook(x, 3, v, false);
        }
    }

    /** "1 long": any number of 64 bits. */
    private static void longs() {
        CHECK.part("longs");
        RemoteDesks x = great();
        x.node(5);
        for (long v : new long[] {0, -1, Long.MAX_VALUE, Long.MIN_VALUE, GREATEST_INT + 1, LEAST_INT - 1, -100003}) {
            setAndLook(x, 4, v, true);
        }
    }

    /** "2 double (64 bits)", "a number (the bits of a double)": any bits, those of no number among them. */
    private static void doubles() {
        CHECK.part("doubles");
        RemoteDesks x = great();
        x.node(5);
        long[] bits = {0, Long.MIN_VALUE, 0x7ff8000000000000L, 0x7ff0000000000001L, 0xfff0000000000001L, 0x7fffffffffffffffL,
            -1, 1, 0x7ff0000000000000L, 0xfff0000000000000L};
        for (long v : bits) {
            setAndLook(x, 5, v, true);
        }
    }

    /** "3 boolean (0, 1)". */
    private static void booleans() {
        CHECK.part("booleans");
        RemoteDesks x = Make.withDesks(0);
        x.node(0);
        for (long v : new long[] {-1, 2, 255, 256, 1L << 32, (1L << 32) + 1, Long.MIN_VALUE, Long.MAX_VALUE}) {
            CHECK.due("set " + v, x.set(0, BOOLEAN, v), Check.OUTSIDE);
            CHECK.due("hand " + v, x.hand(BOOLEAN, v), Check.OUTSIDE);
            CHECK.due("it stays", x.field(0, BOOLEAN), 0);
        }
        CHECK.due("set 1", x.set(0, BOOLEAN, 1), 1);
        CHECK.due("1", x.field(0, BOOLEAN), 1);
        CHECK.due("set 0", x.set(0, BOOLEAN, 0), 1);
        CHECK.due("0", x.field(0, BOOLEAN), 0);
        CHECK.due("hand 1", x.hand(BOOLEAN, 1), 1);
        CHECK.due("hand 0", x.hand(BOOLEAN, 0), 2);
    }

    /** set(): "4 THE LETTERS (empty then), or nothing, if v is NONE". */
    private static void nothingAndLetters() {
        CHECK.part("the letters, or nothing");
        RemoteDesks x = great();
        x.node(5);
        for (long v : WILD) {
            x.letter('q');
            CHECK.due("set " + v, x.set(0, 2, v), 1);
            CHECK.due("the letters", x.field(0, 2), 1);
            CHECK.due("they are empty then", x.letter('z'), 1);
            CHECK.due("set NONE", x.set(0, 2, -1), 1);
            CHECK.due("nothing", x.field(0, 2), -1);
            CHECK.due("the letters stay", x.letter('z'), 2);
            CHECK.due("hand " + v, x.hand(TEXT, v), 1);
            CHECK.due("they are empty then", x.letter('z'), 1);
            CHECK.due("hand NONE", x.hand(TEXT, -1), 2);
            CHECK.due("the letters stay", x.letter('z'), 2);
            x.set(0, 2, 0);
            x.open();
        }
        // the number of nothing in 32 bits is not NONE in 64
        CHECK.due("set (1 << 32) - 1", x.set(0, 2, (1L << 32) - 1), 1);
        CHECK.due("a text of no bytes", x.field(0, 2), 0);
    }

    /** "4 text (nothing, or 0 to 16 bytes)". */
    private static void textsOfEachLength() {
        CHECK.part("texts of each length");
        RemoteDesks x = great();
        x.node(5);
        for (int n = 0; n <= 16; n++) {
            Make.letters(x, "0123456789abcdef".substring(0, n));
            CHECK.due("set", x.set(0, 2, 0), 1);
            CHECK.due("length", x.field(0, 2), n);
            CHECK.due("the last byte", x.letterAt(0, 2, n - 1), n == 0 ? Check.NONE : "0123456789abcdef".charAt(n - 1));
            CHECK.due("one more", x.letterAt(0, 2, n), Check.NONE);
        }
    }

    /** set(): "10 and more a NODE, .. or NONE"; "10 + r record r (nothing, or a NODE of it)". */
    private static void nodesOfFields() {
        CHECK.part("nodes as values");
        RemoteDesks x = great();
        x.node(5);
        x.node(4);
        x.node(5);
        setAndLook(x, 0, 0, true);
        setAndLook(x, 0, 2, true);
        setAndLook(x, 0, 1, false);
        setAndLook(x, 0, 3, false);
        for (long v : WILD) {
            setAndLook(x, 0, v, false);
        }
        setAndLook(x, 0, (1L << 32) + 2, false);
        setAndLook(x, 0, -1, true);
        CHECK.due("a node of the record ahead", x.hand(14, 1), 1);
        CHECK.due("not as another one", x.hand(14, 0), Check.OUTSIDE);
    }

    /** set(): "10 and more .. an OBJECT, or NONE"; "20 + s service s (nothing, or an OBJECT of it)". */
    private static void objectsOfFields() {
        CHECK.part("objects as values");
        RemoteDesks x = great();
        x.node(5);
        CHECK.due("no object yet", x.set(0, 1, 0), Check.OUTSIDE);
        for (int i = 0; i < 24; i++) {
            x.object(0, i == 5 ? 7 : 6, Make.ECHO, 0, 0);
        }
        setAndLook(x, 1, 0, true);
        setAndLook(x, 1, 23, true);
        setAndLook(x, 1, 24, false);
        setAndLook(x, 1, 5, false);
        for (long v : WILD) {
            setAndLook(x, 1, v, false);
        }
        setAndLook(x, 1, -1, true);
        CHECK.due("of the last service", x.hand(27, 5), 1);
        CHECK.due("not of it", x.hand(27, 4), Check.OUTSIDE);
    }

    /** "UNKNOWN (NODE, field)". */
    private static void fieldsThatThereAre() {
        CHECK.part("fields that there are");
        RemoteDesks x = great();
        CHECK.due("no node at all", x.set(0, 0, 0), Check.UNKNOWN);
        CHECK.due("no node at all", x.field(0, 0), Check.UNKNOWN);
        CHECK.due("no node at all", x.letterAt(0, 0, 0), Check.UNKNOWN);
        x.node(5);
        x.node(4);
        x.node(0);
        int[] most = {6, 1, 0};
        for (int n = 0; n < 3; n++) {
            for (int f : new int[] {-1, most[n], most[n] + 1, 6, 7, Integer.MIN_VALUE, Integer.MAX_VALUE}) {
                CHECK.due("set(" + n + ", " + f + ", -1)", x.set(n, f, -1), Check.UNKNOWN);
                CHECK.due("field(" + n + ", " + f + ")", x.field(n, f), Check.UNKNOWN);
                CHECK.due("letterAt(" + n + ", " + f + ", 0)", x.letterAt(n, f, 0), Check.UNKNOWN);
            }
        }
        CHECK.due("the only one", x.set(1, 0, 5), 1);
        CHECK.due("the last one", x.set(0, 5, 5), 1);
        for (int n : new int[] {-1, 3, 60, Integer.MIN_VALUE, Integer.MAX_VALUE}) {
            CHECK.due("set(" + n + ", 0, 0)", x.set(n, 0, 0), Check.UNKNOWN);
            CHECK.due("field(" + n + ", 0)", x.field(n, 0), Check.UNKNOWN);
            CHECK.due("letterAt(" + n + ", 0, 0)", x.letterAt(n, 0, 0), Check.UNKNOWN);
        }
    }

    /** field(): "(What is told may be as a refusal is.)" */
    private static void toldAsARefusal() {
        CHECK.part("told as a refusal is");
        RemoteDesks x = great();
        x.node(5);
        for (long v : new long[] {Check.NONE, Check.UNKNOWN, Check.OUTSIDE, Check.NOT, Check.FULL}) {
            for (int f = 3; f < 6; f++) {
                x.set(0, f, v);
                CHECK.due("field(0, " + f + ")", x.field(0, f), v);
            }
        }
    }

    /** letterAt(): "Byte i of a field's text, 0 .. 255; NONE: there is none such." */
    private static void bytesOfTexts() {
        CHECK.part("bytes of texts");
        RemoteDesks x = great();
        x.node(5);
        for (int part = 0; part < 16; part++) {
            for (int i = 0; i < 16; i++) {
                x.letter(part * 16 + i);
            }
            x.set(0, 2, 0);
            CHECK.due("the first", x.letterAt(0, 2, 0), part * 16);
            CHECK.due("one of these", x.letterAt(0, 2, 9), part * 16 + 9);
            CHECK.due("the last", x.letterAt(0, 2, 15), part * 16 + 15);
        }
        for (int i : new int[] {-1, 16, 17, Integer.MIN_VALUE, Integer.MAX_VALUE}) {
            CHECK.due("letterAt " + i, x.letterAt(0, 2, i), Check.NONE);
        }
        for (int f : new int[] {0, 1, 3, 4, 5}) {
            CHECK.due("of no text", x.letterAt(0, f, 0), Check.NONE);
        }
        x.set(0, 2, -1);
        CHECK.due("of nothing", x.letterAt(0, 2, 0), Check.NONE);
    }

    /** "THE LETTERS up to 16 bytes (none at first)"; letter(): "how many. FULL." */
    private static void sixteenLetters() {
        CHECK.part("16 letters");
        RemoteDesks x = great();
        x.node(5);
        CHECK.due("none at first", x.set(0, 2, 0), 1);
        CHECK.due("none at first", x.field(0, 2), 0);
        for (int i = 1; i <= 16; i++) {
            CHECK.due("letter", x.letter('a' + i), i);
        }
        CHECK.due("one more", x.letter('z'), Check.FULL);
        CHECK.due("and again", x.letter('z'), Check.FULL);
        x.set(0, 2, 0);
        CHECK.due("16", x.field(0, 2), 16);
        CHECK.due("the last that was taken", x.letterAt(0, 2, 15), 'a' + 16);
        CHECK.due("the first of the next", x.letter('y'), 1);
        x.set(0, 2, 0);
        CHECK.due("of these there is one", x.field(0, 2), 1);
        CHECK.due("it", x.letterAt(0, 2, 0), 'y');
    }

    /** letter(): "A byte more (the lowest 8 bits of c)". */
    private static void lowestEightBits() {
        CHECK.part("the lowest 8 bits");
        RemoteDesks x = great();
        x.node(5);
        int[] c = {0, 255, 256, 257, -1, -128, -129, 128, 127, Integer.MIN_VALUE, Integer.MAX_VALUE, 0x7fffff80};
        for (int one : c) {
            x.letter(one);
        }
        x.set(0, 2, 0);
        for (int i = 0; i < c.length; i++) {
            CHECK.due("letter(" + c[i] + ")", x.letterAt(0, 2, i), c[i] & 255);
        }
    }

    /** "THE HAND is a row of up to 3 VALUES (empty at first)"; hand(): "how many .. FULL". */
    private static void threeValues() {
        CHECK.part("3 values");
        RemoteDesks x = great();
        CHECK.due("empty at first", x.open(), 0);
        for (int i = 1; i <= 3; i++) {
            CHECK.due("hand", x.hand(INT, i), i);
        }
        CHECK.due("one more", x.hand(INT, 4), Check.FULL);
        x.letter('a');
        CHECK.due("a text more", x.hand(TEXT, 0), Check.FULL);
        CHECK.due("the letters stay", x.letter('b'), 2);
        CHECK.due("no such sort", x.hand(5, 0), Check.OUTSIDE);
        CHECK.due("not of it", x.hand(INT, GREATEST_INT + 1), Check.OUTSIDE);
        CHECK.due("open", x.open(), 3);
        CHECK.due("then there is room", x.hand(INT, 4), 1);
    }

    /** hand(): "A VALUE more in THE HAND (v as for set())": it is what a call then takes. */
    private static void handOfEachSort() {
        CHECK.part("the hand of each sort");
        RemoteDesks x = great();
        x.object(0, 7, Make.ECHO, 0, 0);
        x.object(0, 6, Make.ECHO, 0, 0);
        x.node(0);
        x.node(5);
        x.hand(15, 1);
        CHECK.due("a node", x.value(x.call(0, 0, 0)), 1);
        x.hand(15, -1);
        CHECK.due("no node", x.value(x.call(0, 0, 0)), -1);
        x.hand(26, 1);
        CHECK.due("an object", x.value(x.call(0, 0, 1)), 1);
        x.hand(26, -1);
        CHECK.due("no object", x.value(x.call(0, 0, 1)), -1);
        x.hand(27, 0);
        CHECK.due("the object itself", x.value(x.call(0, 0, 2)), 0);
        Make.letters(x, "0123456789abcdef");
        x.hand(TEXT, Long.MIN_VALUE);
        int c = x.call(0, 0, 3);
        CHECK.due("a text", x.value(c), 16);
        CHECK.due("its last byte", x.letterOf(c, 15), 'f');
        x.hand(TEXT, 0);
        CHECK.due("an empty text", x.value(x.call(0, 0, 3)), 0);
        x.hand(TEXT, -1);
        CHECK.due("no text", x.value(x.call(0, 0, 3)), -1);
        x.hand(BOOLEAN, 1);
        CHECK.due("a boolean", x.value(x.call(0, 0, 4)), 1);
    }

    /** open(): "THE HAND is empty then: how many it had." */
    private static void openTellsHowMany() {
        CHECK.part("open");
        RemoteDesks x = great();
        for (int n = 0; n <= 3; n++) {
            for (int i = 0; i < n; i++) {
                x.hand(LONG, i);
            }
            CHECK.due("open", x.open(), n);
            CHECK.due("open again", x.open(), 0);
        }
    }

    /** "they live on the bench: whoever has one has the same one". */
    private static void theSameNode() {
        CHECK.part("the same node");
        RemoteDesks x = great();
        x.object(0, 7, Make.ECHO, 0, 0);
        x.node(5);
        x.node(5);
        x.set(0, 0, 1);
        x.set(1, 0, 1);
        x.hand(15, 0);
        x.set(1, 3, 5);
        x.set(0, 3, 6);
        int c = x.call(0, 0, 0);
        CHECK.due("as it is now, not as it was in the hand", x.field((int) x.value(c), 3), 6);
        x.set(0, 3, 7);
        CHECK.due("the call's is the same one", x.field((int) x.value(c), 3), 7);
        CHECK.due("the field's is the same one", x.field((int) x.field(0, 0), 3), 5);
        CHECK.due("no other came", x.count(5), 2);
    }
}
