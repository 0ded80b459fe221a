/** Promises 7 to 13: nodes, fields, the letters and the hand. */
public final class ValuesTest {
    private static final Check CHECK = new Check();
    private static final int INT = 0, LONG = 1, DOUBLE = 2, BOOLEAN = 3, TEXT = 4;

    public static void main(String[] args) {
        nodes();
        fieldsAreZero();
        numbers();
        texts();
        nodesAndObjects();
        fieldRefusals();
        letters();
        hand();
        handOfTexts();
        CHECK.end();
    }

    private static void nodes() {
        CHECK.part("node");
        RemoteDesks x = Make.withDesks(0);
        CHECK.due("node(-1)", x.node(-1), Check.UNKNOWN);
        CHECK.due("node(3)", x.node(3), Check.UNKNOWN);
        for (int i = 0; i < 60; i++) {
            CHECK.due("node", x.node(i % 3), i);
        }
        CHECK.due("node 60", x.node(0), Check.FULL);
        CHECK.due("unknown ahead of full", x.node(3), Check.UNKNOWN);
        CHECK.due("count", x.count(5), 60);
    }

    private static void fieldsAreZero() {
        CHECK.part("zero");
        RemoteDesks x = Make.withDesks(0);
        x.node(0);
        x.node(1);
        long[] pair = {0, 0, 0, 0, -1, -1};
        for (int i = 0; i < pair.length; i++) {
            CHECK.due("field(0, " + i + ")", x.field(0, i), pair[i]);
        }
        long[] box = {-1, -1, 0};
        for (int i = 0; i < box.length; i++) {
            CHECK.due("field(1, " + i + ")", x.field(1, i), box[i]);
        }
    }

    private static void setNumber(RemoteDesks x, int field, long v, boolean good) {
        long before = x.field(0, field);
        CHECK.due("set(0, " + field + ", " + v + ")", x.set(0, field, v), good ? 1 : Check.OUTSIDE);
        CHECK.due("field(0, " + field + ")", x.field(0, field), good ? v : before);
    }

    private static void numbers() {
        CHECK.part("numbers");
        RemoteDesks x = Make.withDesks(0);
        x.node(0);
        setNumber(x, INT, 41, true);
        setNumber(x, INT, Integer.MAX_VALUE, true);
        setNumber(x, INT, Integer.MIN_VALUE, true);
        setNumber(x, INT, Integer.MAX_VALUE + 1L, false);
        setNumber(x, INT, Integer.MIN_VALUE - 1L, false);
        setNumber(x, INT, 1L << 32, false);
        setNumber(x, LONG, Long.MAX_VALUE, true);
        setNumber(x, LONG, Long.MIN_VALUE, true);
        setNumber(x, DOUBLE, Double.doubleToRawLongBits(-1.5), true);
        setNumber(x, DOUBLE, -1, true);
        setNumber(x, BOOLEAN, 1, true);
        setNumber(x, BOOLEAN, 2, false);
        setNumber(x, BOOLEAN, -1, false);
        setNumber(x, BOOLEAN, 1L << 32, false);
        setNumber(x, BOOLEAN, 0, true);
        CHECK.due("other fields stay", x.field(0, INT), Integer.MIN_VALUE);
        setNumber(x, LONG, RemoteDesks.UNKNOWN, true);
    }

    private static void texts() {
        CHECK.part("texts");
        RemoteDesks x = Make.withDesks(0);
        x.node(0);
        x.node(0);
        CHECK.due("letterAt of nothing", x.letterAt(0, TEXT, 0), Check.NONE);
        Make.letters(x, "hi\u00ff");
        CHECK.due("set", x.set(0, TEXT, 77), 1);
        CHECK.due("length", x.field(0, TEXT), 3);
        CHECK.due("letterAt 0", x.letterAt(0, TEXT, 0), 'h');
        CHECK.due("letterAt 1", x.letterAt(0, TEXT, 1), 'i');
        CHECK.due("letterAt 2", x.letterAt(0, TEXT, 2), 255);
        CHECK.due("letterAt 3", x.letterAt(0, TEXT, 3), Check.NONE);
        CHECK.due("letterAt -1", x.letterAt(0, TEXT, -1), Check.NONE);
        CHECK.due("the letters are empty", x.letter('a'), 1);
        CHECK.due("set to nothing", x.set(0, TEXT, -1), 1);
        CHECK.due("nothing", x.field(0, TEXT), -1);
        CHECK.due("the letters stay", x.letter('b'), 2);
        CHECK.due("set", x.set(1, TEXT, Long.MIN_VALUE), 1);
        CHECK.due("length", x.field(1, TEXT), 2);
        CHECK.due("set", x.set(0, TEXT, 0), 1);
        CHECK.due("an empty text", x.field(0, TEXT), 0);
        CHECK.due("letterAt of it", x.letterAt(0, TEXT, 0), Check.NONE);
        CHECK.due("the other stays", x.letterAt(1, TEXT, 1), 'b');
        CHECK.due("letterAt of a number", x.letterAt(0, INT, 0), Check.NONE);
        CHECK.due("letterAt of a node", x.letterAt(0, 5, 0), Check.NONE);
    }

    private static void nodesAndObjects() {
        CHECK.part("nodes and objects in fields");
        RemoteDesks x = Make.withDesks(1);
        x.node(0);
        x.node(1);
        x.node(0);
        x.object(0, 0, 0, 0, 0);
        x.object(0, 1, 0, 0, 0);
        CHECK.due("a pair", x.set(0, 5, 2), 1);
        CHECK.due("it", x.field(0, 5), 2);
        CHECK.due("itself", x.set(0, 5, 0), 1);
        CHECK.due("it", x.field(0, 5), 0);
        CHECK.due("a box is no pair", x.set(0, 5, 1), Check.OUTSIDE);
        CHECK.due("no such node", x.set(0, 5, 3), Check.OUTSIDE);
        CHECK.due("-2", x.set(0, 5, -2), Check.OUTSIDE);
        CHECK.due("2 to the 32nd", x.set(0, 5, 1L << 32), Check.OUTSIDE);
        CHECK.due("it stays", x.field(0, 5), 0);
        CHECK.due("nothing", x.set(0, 5, -1), 1);
        CHECK.due("nothing", x.field(0, 5), -1);
        CHECK.due("an object", x.set(1, 0, 0), 1);
        CHECK.due("it", x.field(1, 0), 0);
        CHECK.due("one of another service", x.set(1, 0, 1), Check.OUTSIDE);
        CHECK.due("no such object", x.set(1, 0, 2), Check.OUTSIDE);
        CHECK.due("nothing", x.set(1, 0, -1), 1);
        CHECK.due("nothing", x.field(1, 0), -1);
        // the same node everywhere
        x.set(1, 1, 2);
        x.set(2, 0, 99);
        CHECK.due("through the box", x.field((int) x.field(1, 1), 0), 99);
    }

    private static void fieldRefusals() {
        CHECK.part("refusals of fields");
        RemoteDesks x = Make.withDesks(0);
        CHECK.due("set, no node", x.set(0, 0, 0), Check.UNKNOWN);
        x.node(1);
        x.node(2);
        CHECK.due("set, node -1", x.set(-1, 0, 0), Check.UNKNOWN);
        CHECK.due("set, node 2", x.set(2, 0, 0), Check.UNKNOWN);
        CHECK.due("set, field -1", x.set(0, -1, 0), Check.UNKNOWN);
        CHECK.due("set, field 3", x.set(0, 3, 0), Check.UNKNOWN);
        CHECK.due("set, a record without fields", x.set(1, 0, 0), Check.UNKNOWN);
        CHECK.due("field, node -1", x.field(-1, 0), Check.UNKNOWN);
        CHECK.due("field, node 2", x.field(2, 0), Check.UNKNOWN);
        CHECK.due("field 3", x.field(0, 3), Check.UNKNOWN);
        CHECK.due("field -1", x.field(0, -1), Check.UNKNOWN);
        CHECK.due("letterAt, node 2", x.letterAt(2, 0, 0), Check.UNKNOWN);
        CHECK.due("letterAt, field 3", x.letterAt(0, 3, 0), Check.UNKNOWN);
        CHECK.due("letterAt, field -1", x.letterAt(0, -1, 0), Check.UNKNOWN);
    }

    private static void letters() {
        CHECK.part("letters");
        RemoteDesks x = Make.withDesks(0);
        x.node(0);
        for (int i = 1; i <= 16; i++) {
            CHECK.due("letter", x.letter(i * 1000 + 7), i);
        }
        CHECK.due("letter 17", x.letter(0), Check.FULL);
        x.set(0, TEXT, 0);
        CHECK.due("length", x.field(0, TEXT), 16);
        for (int i = 0; i < 16; i++) {
            CHECK.due("letterAt", x.letterAt(0, TEXT, i), (i + 1) * 1000 + 7 & 255);
        }
        x.letter(-1);
        x.letter(-256);
        x.set(0, TEXT, 0);
        CHECK.due("letter(-1)", x.letterAt(0, TEXT, 0), 255);
        CHECK.due("letter(-256)", x.letterAt(0, TEXT, 1), 0);
    }

    private static void hand() {
        CHECK.part("hand");
        RemoteDesks x = Make.withDesks(1);
        x.node(0);
        x.node(1);
        x.object(0, 0, 0, 0, 0);
        int[] noSorts = {-1, 5, 9, 13, 16, 19, 23, 28, 100, Integer.MIN_VALUE, Integer.MAX_VALUE};
        for (int sort : noSorts) {
            CHECK.due("hand(" + sort + ", -1)", x.hand(sort, -1), Check.OUTSIDE);
            CHECK.due("hand(" + sort + ", 0)", x.hand(sort, 0), Check.OUTSIDE);
        }
        CHECK.due("int too great", x.hand(INT, 1L << 31), Check.OUTSIDE);
        CHECK.due("boolean 2", x.hand(BOOLEAN, 2), Check.OUTSIDE);
        CHECK.due("a box as pair", x.hand(Make.PAIR, 1), Check.OUTSIDE);
        CHECK.due("no such node", x.hand(Make.PAIR, 2), Check.OUTSIDE);
        CHECK.due("node -2", x.hand(Make.PAIR, -2), Check.OUTSIDE);
        CHECK.due("a plain as other", x.hand(Make.OTHER, 0), Check.OUTSIDE);
        CHECK.due("no such object", x.hand(Make.PLAIN, 1), Check.OUTSIDE);
        CHECK.due("none came", x.open(), 0);
        CHECK.due("long", x.hand(LONG, Long.MIN_VALUE), 1);
        CHECK.due("double", x.hand(DOUBLE, -1), 2);
        CHECK.due("pair", x.hand(Make.PAIR, 0), 3);
        CHECK.due("full", x.hand(INT, 0), Check.FULL);
        CHECK.due("outside ahead of full", x.hand(BOOLEAN, 2), Check.OUTSIDE);
        CHECK.due("open", x.open(), 3);
        CHECK.due("open", x.open(), 0);
        CHECK.due("box", x.hand(Make.BOX, 1), 1);
        CHECK.due("nothing", x.hand(Make.EMPTY, -1), 2);
        CHECK.due("open", x.open(), 2);
        CHECK.due("plain", x.hand(Make.PLAIN, 0), 1);
        CHECK.due("no other", x.hand(Make.OTHER, -1), 2);
        CHECK.due("no lone", x.hand(Make.LONE, -1), 3);
        RemoteDesks empty = new RemoteDesks();
        CHECK.due("no record without a book", empty.hand(10, -1), Check.OUTSIDE);
        CHECK.due("no service without a book", empty.hand(20, -1), Check.OUTSIDE);
        CHECK.due("text without a book", empty.hand(TEXT, 0), 1);
    }

    private static void handOfTexts() {
        CHECK.part("texts in the hand");
        RemoteDesks x = Make.withDesks(1);
        x.object(0, 0, Make.ECHO, 0, 0);
        Make.letters(x, "abc");
        CHECK.due("hand", x.hand(TEXT, 0), 1);
        CHECK.due("the letters are empty", x.letter('z'), 1);
        CHECK.due("call", x.call(0, 0, 4), 0);
        CHECK.due("length", x.value(0), 3);
        CHECK.due("letterOf", x.letterOf(0, 2), 'c');
        CHECK.due("nothing", x.hand(TEXT, -1), 1);
        CHECK.due("the letters stay", x.letter('y'), 2);
        x.hand(INT, 0);
        x.hand(INT, 0);
        CHECK.due("full", x.hand(TEXT, 0), Check.FULL);
        CHECK.due("the letters stay", x.letter('x'), 3);
    }
}
