import java.util.ArrayList;
import java.util.Arrays;

/** Desks that call one another's objects by references; the words in capitals are the document's. */
public final class RemoteDesks {
    public static final int NONE = -1, UNKNOWN = -100001, OUTSIDE = -100002, NOT = -100003, FULL = -100004;

    private static final int TAPE_BYTES = 1500, TEXT_BYTES = 16, HAND_VALUES = 3;
    private static final int MOST_NODES = 60, MOST_DESKS = 8, MOST_OBJECTS = 24, MOST_FAILURES = 16, MOST_CALLS = 60;
    private static final int MOST_KINDS = 8, MOST_RECORDS = 6, MOST_SERVICES = 8;
    private static final int MOST_FIELDS = 6, MOST_METHODS = 8, MOST_ARGUMENTS = 3;
    private static final int MOST_NOTE = 999, MOST_BESIDE = 2, MOST_SIZE = 12;
    private static final int MOST_UNITS_OF_TIME = 100, MOST_AGE = 200;
    private static final int ARTICLES = 4, MOST_UNITS = 1000, MOST_STOCK = 30000;

    /** SORTS; a record's is RECORD + its number, a service's SERVICE + its number. */
    private static final int INT = 0, LONG = 1, DOUBLE = 2, BOOLEAN = 3, TEXT = 4, RECORD = 10, SERVICE = 20;
    /** DEEDS. */
    private static final int ECHO = 0, COUNT = 1, FAIL = 2, KEEP = 3, RAISE = 4, RELAY = 5;
    /** STATES of a CALL. */
    private static final int ON_THE_WAY = 0, ANSWERED = 1, FAILED = 2, GIVEN_UP = 3, AGED = 4, FORGOTTEN = 5;
    /** What a MESSAGE is. */
    private static final int REQUEST = 0, ANSWER = 1, THANKS = 2;
    /** First byte of an ANSWER. */
    private static final int WITH_VALUE = 0, WITH_TREE = 1, WITH_AGED = 2;
    /** First byte of a VALUE that is not a number. */
    private static final int NOTHING = 255, MET = 254, NEW = 253;
    private static final int CARRY = 250;

    private static final int MESSAGE_BYTES = 240, MESSAGE_NODES = 12, PART_BYTES = 24, MOST_PARTS = 10;
    private static final int HEAD_BYTES = 5, MOST_SLOTS = 40;
    /** A TREE is a row of numbers: kind, note, DESK, whether it has a cause, how many are beside it, and so on. */
    private static final int TREE_ROW = 5, TREE_ROW_BYTES = 6;
    private static final int REPEAT_UNITS = 4, LAST_UNIT = 36;
    private static final int NOTE_TOO_GREAT = 901, NOTE_ARGUMENTS_LACK = 902, NOTE_VALUE_LACKS = 903;
    private static final int NOTE_NO_REFERENCE = 904, NOTE_OTHER_SORTS = 905, NOTE_NO_CALL = 906;
    private static final int NOTE_REQUEST_TOO_GREAT = 907, NOTE_GIVEN_UP = 908, NOTE_AGED = 909;
    private static final byte[] AGED_BYTES = {WITH_AGED};
    private static final byte[] NO_BYTES = {};

    private final byte[] tape = new byte[TAPE_BYTES];
    private int tapeLength;
    private Book book = new Book();
    private boolean described;
    private int faultPlace = NONE;
    private final byte[] letters = new byte[TEXT_BYTES];
    private int letterCount;
    private final ArrayList<Value> inHand = new ArrayList<>();
    private final ArrayList<Node> nodes = new ArrayList<>();
    private final ArrayList<Failure> failures = new ArrayList<>();
    private final ArrayList<Desk> desks = new ArrayList<>();
    private final ArrayList<Thing> things = new ArrayList<>();
    private final ArrayList<Call> calls = new ArrayList<>();
    private final Wire wire = new Wire();
    private final Writer writer = new Writer();
    private int time;

    public RemoteDesks() {
    }

    // ---- the book

    public int feed(int a, int b, int c, int d, int e) {
        if (tapeLength > TAPE_BYTES - 20) {
            return FULL;
        }
        feedNumber(a);
        feedNumber(b);
        feedNumber(c);
        feedNumber(d);
        feedNumber(e);
        return tapeLength;
    }

    private void feedNumber(int number) {
        for (int shift = 24; shift >= 0 && tapeLength < TAPE_BYTES; shift -= 8) {
            tape[tapeLength] = (byte) (number >> shift);
            tapeLength++;
        }
    }

    public int cut(int n) {
        if (n < 0 || n > tapeLength) {
            return OUTSIDE;
        }
        int went = tapeLength - n;
        tapeLength = n;
        return went;
    }

    public int describe() {
        if (described) {
            return NOT;
        }
        BookReader reader = new BookReader(tape, tapeLength);
        tapeLength = 0;
        if (!reader.readBook()) {
            faultPlace = reader.begin;
            return -1 - reader.fault;
        }
        faultPlace = NONE;
        book = reader.book;
        described = true;
        return book.services;
    }

    public int place() {
        return faultPlace;
    }

    public int count(int what) {
        switch (what) {
            case 0: return book.kinds + 1;
            case 1: return book.records;
            case 2: return book.services;
            case 3: return desks.size();
            case 4: return things.size();
            case 5: return nodes.size();
            case 6: return failures.size();
            case 7: return calls.size();
            case 8: return wire.slots;
            case 9: return time;
            case 10: return wire.lost;
            default: return OUTSIDE;
        }
    }

    // ---- values

    public int node(int record) {
        if (record < 0 || record >= book.records) {
            return UNKNOWN;
        }
        if (nodes.size() >= MOST_NODES) {
            return FULL;
        }
        nodes.add(new Node(record, book));
        return nodes.size() - 1;
    }

    public int set(int node, int field, long v) {
        Value old = fieldAt(node, field);
        if (old == null) {
            return UNKNOWN;
        }
        if (!isOf(old.sort, v)) {
            return OUTSIDE;
        }
        nodes.get(node).fields[field] = makeValue(old.sort, v);
        return 1;
    }

    public long field(int node, int field) {
        Value value = fieldAt(node, field);
        return value == null ? UNKNOWN : value.tells();
    }

    public int letterAt(int node, int field, int i) {
        Value value = fieldAt(node, field);
        return value == null ? UNKNOWN : value.byteAt(i);
    }

    public int letter(int c) {
        if (letterCount >= TEXT_BYTES) {
            return FULL;
        }
        letters[letterCount] = (byte) c;
        letterCount++;
        return letterCount;
    }

    public int hand(int sort, long v) {
        if (!book.hasSort(sort) || !isOf(sort, v)) {
            return OUTSIDE;
        }
        if (inHand.size() >= HAND_VALUES) {
            return FULL;
        }
        inHand.add(makeValue(sort, v));
        return inHand.size();
    }

    public int open() {
        int had = inHand.size();
        inHand.clear();
        return had;
    }

    private Node nodeAt(long number) {
        return number >= 0 && number < nodes.size() ? nodes.get((int) number) : null;
    }

    private Value fieldAt(int node, int field) {
        Node at = nodeAt(node);
        return at == null || field < 0 || field >= at.fields.length ? null : at.fields[field];
    }

    /** Whether v tells a VALUE of a SORT that there is. */
    private boolean isOf(int sort, long v) {
        switch (sort) {
            case INT: return v == (int) v;
            case LONG: return true;
            case DOUBLE: return true;
            case BOOLEAN: return v == 0 || v == 1;
            case TEXT: return true;
            default: return v == NONE || sortOfNamed(sort, v) == sort;
        }
    }

    /** The SORT of NODE or OBJECT v, whichever such a sort is for. */
    private int sortOfNamed(int sort, long v) {
        if (sort >= SERVICE) {
            Thing thing = thingAt(v);
            return thing == null ? NONE : SERVICE + thing.service;
        }
        Node node = nodeAt(v);
        return node == null ? NONE : RECORD + node.record;
    }

    /** Only behind isOf(): takes THE LETTERS, if the text is to be they. */
    private Value makeValue(int sort, long v) {
        if (sort != TEXT) {
            return new Value(sort, v, null);
        }
        if (v == NONE) {
            return Value.zero(TEXT);
        }
        byte[] text = Arrays.copyOf(letters, letterCount);
        letterCount = 0;
        return new Value(TEXT, 0, text);
    }

    // ---- desks, objects, failures

    public int desk() {
        if (desks.size() >= MOST_DESKS) {
            return FULL;
        }
        desks.add(new Desk(desks.size()));
        return desks.size() - 1;
    }

    public int object(int desk, int service, int deed, int with, int m) {
        Desk host = deskAt(desk);
        if (host == null || service < 0 || service >= book.services) {
            return UNKNOWN;
        }
        if (deed == FAIL && failureAt(with) == null) {
            return UNKNOWN;
        }
        // the number that is due for this OBJECT is one of its own, too
        if (deed == RELAY && (with < 0 || with > things.size())) {
            return UNKNOWN;
        }
        if (deed < ECHO || deed > RELAY) {
            return OUTSIDE;
        }
        if (deed == RELAY && (m < 0 || m >= MOST_METHODS)) {
            return OUTSIDE;
        }
        if (things.size() >= MOST_OBJECTS) {
            return FULL;
        }
        things.add(new Thing(things.size(), host, service, deed, with, m));
        return things.size() - 1;
    }

    public int failure(int kind, int note, int cause) {
        Failure below = failureAt(cause);
        if (kind < 0 || kind > book.kinds || cause != NONE && below == null) {
            return UNKNOWN;
        }
        if (note < 0 || note > MOST_NOTE) {
            return OUTSIDE;
        }
        if (failures.size() >= MOST_FAILURES || 1 + sizeOf(below) > MOST_SIZE) {
            return FULL;
        }
        failures.add(new Failure(kind, note, below));
        return failures.size() - 1;
    }

    public int beside(int f, int g) {
        Failure upper = failureAt(f);
        Failure lower = failureAt(g);
        if (upper == null || lower == null) {
            return UNKNOWN;
        }
        if (g >= f) {
            return NOT;
        }
        if (upper.besides >= MOST_BESIDE) {
            return FULL;
        }
        upper.beside[upper.besides] = lower;
        upper.besides++;
        if (!allSizesFit()) {
            upper.besides--;
            return FULL;
        }
        return upper.besides;
    }

    public int knows(int desk, int kind, boolean on) {
        Desk at = deskAt(desk);
        if (at == null || kind < 0 || kind > book.kinds) {
            return UNKNOWN;
        }
        if (kind == 0) {
            return NOT;
        }
        int did = at.ignores[kind] ? 0 : 1;
        at.ignores[kind] = !on;
        return did;
    }

    public int give(int desk, int object) {
        Desk to = deskAt(desk);
        Thing thing = thingAt(object);
        if (to == null || thing == null) {
            return UNKNOWN;
        }
        if (thing.host == to) {
            return NOT;
        }
        to.hold(thing);
        return to.held[thing.number];
    }

    public int release(int desk, int object) {
        Desk from = deskAt(desk);
        Thing thing = thingAt(object);
        if (from == null || thing == null) {
            return UNKNOWN;
        }
        if (thing.host == from) {
            return NOT;
        }
        int did = from.held[thing.number] == NONE ? 0 : 1;
        from.held[thing.number] = NONE;
        return did;
    }

    public int reference(int desk, int object) {
        Desk at = deskAt(desk);
        Thing thing = thingAt(object);
        return at == null || thing == null ? UNKNOWN : at.held[thing.number];
    }

    public int told(int object, int what) {
        Thing thing = thingAt(object);
        if (thing == null) {
            return UNKNOWN;
        }
        switch (what) {
            case 0: return thing.host.number;
            case 1: return holders(thing);
            case 2: return thing.begun;
            case 3: return (int) thing.total;
            case 4: return (int) (thing.total >> 32);
            case 5: return thing.kept;
            case 6: return thing.service;
            default: return OUTSIDE;
        }
    }

    private Desk deskAt(int number) {
        return number >= 0 && number < desks.size() ? desks.get(number) : null;
    }

    private Thing thingAt(long number) {
        return number >= 0 && number < things.size() ? things.get((int) number) : null;
    }

    private Failure failureAt(int number) {
        return number >= 0 && number < failures.size() ? failures.get(number) : null;
    }

    private int holders(Thing thing) {
        int holders = 0;
        for (int i = 0; i < desks.size(); i++) {
            if (desks.get(i).held[thing.number] != NONE) {
                holders++;
            }
        }
        return holders;
    }

    /** Ends, as a FAILURE has only those below it that were made ahead of it: 16 levels at the most. */
    private static int sizeOf(Failure failure) {
        if (failure == null) {
            return 0;
        }
        int size = 1 + sizeOf(failure.cause);
        for (int i = 0; i < failure.besides; i++) {
            size += sizeOf(failure.beside[i]);
        }
        return size;
    }

    private boolean allSizesFit() {
        for (int i = 0; i < failures.size(); i++) {
            if (sizeOf(failures.get(i)) > MOST_SIZE) {
                return false;
            }
        }
        return true;
    }

    /** Writes a FAILURE and all below it into a TREE from a place on: the place behind them. */
    private static int copyFailure(Failure failure, Desk desk, int[] tree, int from) {
        if (failure == null || from > tree.length - TREE_ROW) {
            return from;
        }
        tree[from] = failure.kind;
        tree[from + 1] = failure.note;
        tree[from + 2] = desk.number;
        tree[from + 3] = failure.cause == null ? 0 : 1;
        tree[from + 4] = failure.besides;
        int next = copyFailure(failure.cause, desk, tree, from + TREE_ROW);
        for (int i = 0; i < failure.besides; i++) {
            next = copyFailure(failure.beside[i], desk, tree, next);
        }
        return next;
    }

    private static int[] treeOf(Failure failure, Desk desk) {
        int[] tree = new int[sizeOf(failure) * TREE_ROW];
        copyFailure(failure, desk, tree, 0);
        return tree;
    }

    private static int[] loneTree(int note, Desk desk) {
        int[] tree = new int[TREE_ROW];
        tree[1] = note;
        tree[2] = desk.number;
        return tree;
    }

    // ---- calls

    public int call(int desk, int object, int m) {
        Desk caller = deskAt(desk);
        Thing thing = thingAt(object);
        if (caller == null || thing == null) {
            return UNKNOWN;
        }
        int row = book.methodRow(thing.service, m);
        if (row == NONE) {
            return UNKNOWN;
        }
        Value[] arguments = handValues();
        if (!caller.refersTo(thing) || !book.fits(row, arguments)) {
            return NOT;
        }
        boolean sent = thing.host != caller;
        if (calls.size() >= MOST_CALLS || sent && !writeRequest(caller, thing, m, arguments)) {
            return FULL;
        }
        Call call = addCall(caller, thing.host, thing, m, null);
        inHand.clear();
        if (sent) {
            call.request = writer.written();
            sendRequest(call);
        } else {
            perform(call, arguments);
        }
        return call.number;
    }

    public int state(int call) {
        Call at = callAt(call);
        return at == null ? UNKNOWN : at.state;
    }

    public long value(int call) {
        Call at = callAt(call);
        if (at == null) {
            return UNKNOWN;
        }
        return at.value == null ? NONE : at.value.tells();
    }

    public int letterOf(int call, int i) {
        Call at = callAt(call);
        if (at == null) {
            return UNKNOWN;
        }
        return at.value == null ? NONE : at.value.byteAt(i);
    }

    public int tree(int call, int i, int what) {
        Call at = callAt(call);
        if (at == null) {
            return UNKNOWN;
        }
        int size = at.tree == null ? 0 : at.tree.length / TREE_ROW;
        if (i == -1) {
            return size;
        }
        if (at.tree == null || i < 0 || i >= size) {
            return UNKNOWN;
        }
        return what < 0 || what >= TREE_ROW ? OUTSIDE : at.tree[i * TREE_ROW + what];
    }

    public int about(int call, int what) {
        Call at = callAt(call);
        if (at == null) {
            return UNKNOWN;
        }
        switch (what) {
            case 0: return at.caller.number;
            case 1: return at.thing == null ? NONE : at.thing.number;
            case 2: return at.method;
            case 3: return at.outer == null ? NONE : at.outer.number;
            case 4: return at.sent;
            case 5: return at.begun ? 1 : 0;
            default: return OUTSIDE;
        }
    }

    private Call callAt(int number) {
        return number >= 0 && number < calls.size() ? calls.get(number) : null;
    }

    private Value[] handValues() {
        Value[] values = new Value[inHand.size()];
        for (int i = 0; i < inHand.size() && i < values.length; i++) {
            values[i] = inHand.get(i);
        }
        return values;
    }

    private Call addCall(Desk caller, Desk server, Thing thing, int method, Call outer) {
        Call call = new Call(calls.size(), caller, server, thing, method, outer, time);
        calls.add(call);
        return call;
    }

    /** Whether the REQUEST, which the writer has then, is not TOO GREAT. */
    private boolean writeRequest(Desk caller, Thing thing, int method, Value[] arguments) {
        writer.begin();
        writer.putNumber(thing.number, 1);
        writer.putNumber(method, 1);
        writer.putNumber(caller.held[thing.number], 1);
        for (Value argument : arguments) {
            writer.putValue(argument, nodes);
        }
        return !writer.tooGreat;
    }

    private void sendRequest(Call call) {
        call.sent++;
        sendMessage(call, REQUEST, call.request);
    }

    private void sendMessage(Call call, int what, byte[] bytes) {
        Desk from = what == ANSWER ? call.server : call.caller;
        Desk to = what == ANSWER ? call.caller : call.server;
        int parts = Math.max(1, (bytes.length + PART_BYTES - 1) / PART_BYTES);
        for (int part = 0; part < parts; part++) {
            wire.makeRoom();
            wire.add(from.number * 16 + to.number, what, call.number, part, parts, bytes);
        }
        from.slotsSent += parts;
    }

    /** Does a CALL's DEED; that of a CALL within to the same DESK follows in the same loop, for CALLS nest 60 deep. */
    private void perform(Call first, Value[] arguments) {
        Call call = first;
        for (int i = 0; i <= MOST_CALLS; i++) {
            Thing thing = call.thing;
            if (thing == null) {
                return;
            }
            thing.begun++;
            if (thing.deed == FAIL) {
                endDeed(call, null, treeOf(failureAt(thing.with), thing.host));
                return;
            }
            if (thing.deed != RELAY) {
                endDeed(call, answerOf(thing, answerSort(call), arguments), null);
                return;
            }
            Thing target = thingAt(thing.with);
            int note = relayFault(call, thing, target, arguments);
            if (note != 0 || target == null) {
                endDeed(call, null, loneTree(note, thing.host));
                return;
            }
            Call within = addCall(thing.host, target.host, target, thing.m, call);
            if (target.host != thing.host) {
                within.request = writer.written();
                sendRequest(within);
                return;
            }
            call = within;
        }
    }

    /** The note of a RELAY that fails at once, or 0; then the writer has its REQUEST, if there is to be one. */
    private int relayFault(Call call, Thing relay, Thing target, Value[] arguments) {
        if (target == null || !relay.host.refersTo(target)) {
            return NOTE_NO_REFERENCE;
        }
        int row = book.methodRow(target.service, relay.m);
        if (row == NONE || !book.fits(row, arguments) || book.answerSorts[row] != answerSort(call)) {
            return NOTE_OTHER_SORTS;
        }
        if (calls.size() >= MOST_CALLS) {
            return NOTE_NO_CALL;
        }
        if (target.host != relay.host && !writeRequest(relay.host, target, relay.m, arguments)) {
            return NOTE_REQUEST_TOO_GREAT;
        }
        return 0;
    }

    private int answerSort(Call call) {
        int row = call.thing == null ? NONE : book.methodRow(call.thing.service, call.method);
        return row == NONE ? INT : book.answerSorts[row];
    }

    private Value answerOf(Thing thing, int sort, Value[] arguments) {
        switch (thing.deed) {
            case COUNT:
                thing.countIn(arguments);
                return thing.totalAs(sort);
            case KEEP:
                return keepLast(thing, sort, arguments);
            case RAISE:
                raiseReached(arguments);
                return echo(sort, arguments);
            default:
                return echo(sort, arguments);
        }
    }

    private static Value echo(int sort, Value[] arguments) {
        for (Value argument : arguments) {
            if (argument.sort == sort) {
                return argument;
            }
        }
        return Value.zero(sort);
    }

    private Value keepLast(Thing thing, int sort, Value[] arguments) {
        Thing before = thingAt(thing.kept);
        thing.kept = NONE;
        for (Value argument : arguments) {
            if (argument.sort >= SERVICE) {
                thing.kept = (int) argument.number;
            }
        }
        if (before == null || SERVICE + before.service != sort) {
            return Value.zero(sort);
        }
        return new Value(sort, before.number, null);
    }

    private void raiseReached(Value[] arguments) {
        int[] reached = new int[MOST_NODES];
        int count = reach(arguments, reached, 0);
        for (int i = 0; i < count && i < MOST_NODES; i++) {
            Node node = nodeAt(reached[i]);
            if (node != null) {
                count = reach(node.fields, reached, count);
                node.increase();
            }
        }
    }

    /** Puts the NODES among some VALUES behind those reached already, if they are not there: how many are then. */
    private static int reach(Value[] values, int[] reached, int before) {
        int count = before;
        for (Value value : values) {
            if (value.isNode() && !contains(reached, count, value.number) && count < reached.length) {
                reached[count] = (int) value.number;
                count++;
            }
        }
        return count;
    }

    private static boolean contains(int[] numbers, int count, long number) {
        for (int i = 0; i < count && i < numbers.length; i++) {
            if (numbers[i] == number) {
                return true;
            }
        }
        return false;
    }

    /** A DEED has ended, with a VALUE or, if that is null, with a TREE; RELAYS of the same DESK that wait end, too. */
    private void endDeed(Call first, Value value, int[] tree) {
        Call call = first;
        for (int i = 0; i <= MOST_CALLS && call != null; i++) {
            if (call.request != null) {
                putOnShelf(call, value, tree);
                return;
            }
            call.end(value, tree);
            call = call.outer;
        }
    }

    private void putOnShelf(Call call, Value value, int[] tree) {
        writer.begin();
        if (value == null) {
            writer.putTree(tree);
        } else {
            writer.putNumber(WITH_VALUE, 1);
            writer.putValue(value, nodes);
        }
        if (writer.tooGreat) {
            writer.begin();
            writer.putTree(loneTree(NOTE_TOO_GREAT, call.server));
        }
        call.shelf = writer.written();
        sendMessage(call, ANSWER, call.shelf);
    }

    // ---- slots, time

    public int slot(int i, int k) {
        if (i < 0 || i >= wire.slots) {
            return UNKNOWN;
        }
        return wire.byteOf(i, k);
    }

    public int through(int i) {
        if (i < 0 || i >= wire.slots) {
            return UNKNOWN;
        }
        wire.copyOut(i);
        wire.takeOff(i);
        Call call = callAt(wire.copy[2]);
        if (call == null) {
            return wire.slots;
        }
        int what = wire.copy[1];
        if (what == THANKS) {
            call.shelf = null;
            return wire.slots;
        }
        Incoming parts = call.partsOf(what);
        if (parts.keep(wire.copy, wire.copyLength)) {
            parts.drop();
            if (what == REQUEST) {
                takeRequest(call, parts);
            } else {
                takeAnswer(call, parts);
            }
        }
        return wire.slots;
    }

    public int lose(int i) {
        if (i < 0 || i >= wire.slots) {
            return UNKNOWN;
        }
        wire.takeOff(i);
        return wire.slots;
    }

    public int twice(int i) {
        if (i < 0 || i >= wire.slots) {
            return UNKNOWN;
        }
        wire.copyOut(i);
        wire.makeRoom();
        wire.addCopy();
        return wire.slots;
    }

    public int tick(int n) {
        if (n < 0 || n > MOST_UNITS_OF_TIME) {
            return OUTSIDE;
        }
        for (int unit = 0; unit < n; unit++) {
            time++;
            for (int i = 0; i < calls.size(); i++) {
                ask(calls.get(i));
            }
        }
        return time;
    }

    public int restart(int desk) {
        Desk at = deskAt(desk);
        if (at == null) {
            return UNKNOWN;
        }
        if (at.age >= MOST_AGE) {
            return FULL;
        }
        at.age++;
        for (int i = 0; i < calls.size(); i++) {
            calls.get(i).forget(at);
        }
        return at.age;
    }

    public int audit(int desk, int what) {
        Desk at = deskAt(desk);
        if (at == null) {
            return UNKNOWN;
        }
        switch (what) {
            case 0: return at.slotsSent;
            case 1: return at.requestsAgain;
            case 2: return shelved(at);
            case 3: return at.age;
            case 4: return begunAt(at);
            case 5: return partsKept(at);
            case 6: return at.tookWhole;
            default: return OUTSIDE;
        }
    }

    private void ask(Call call) {
        if (call.request == null || call.state != ON_THE_WAY) {
            return;
        }
        int since = time - call.born;
        if (since >= LAST_UNIT) {
            call.state = GIVEN_UP;
            endDeed(call.outer, null, loneTree(NOTE_GIVEN_UP, call.caller));
        } else if (since % REPEAT_UNITS == 0) {
            call.caller.requestsAgain++;
            sendRequest(call);
        }
    }

    private void takeRequest(Call call, Incoming request) {
        call.server.tookWhole++;
        if (call.shelf != null) {
            sendMessage(call, ANSWER, call.shelf);
            return;
        }
        if (call.begun) {
            return;
        }
        request.startAt(2);
        if (request.readNumber(1) != call.server.age) {
            sendMessage(call, ANSWER, AGED_BYTES);
            return;
        }
        call.begun = true;
        if (call.thing == null) {
            deliver(call, request);
            return;
        }
        Value[] arguments = come(call.server, request, book.argumentSortsOf(call.thing.service, call.method));
        if (arguments == null) {
            endDeed(call, null, loneTree(NOTE_ARGUMENTS_LACK, call.server));
        } else {
            perform(call, arguments);
        }
    }

    private void takeAnswer(Call call, Incoming answer) {
        call.caller.tookWhole++;
        sendMessage(call, THANKS, NO_BYTES);
        if (call.state != ON_THE_WAY) {
            return;
        }
        answer.startAt(0);
        long first = answer.readNumber(1);
        if (first == WITH_AGED) {
            call.state = AGED;
            call.takeBack();
            endDeed(call.outer, null, loneTree(NOTE_AGED, call.caller));
            return;
        }
        Value value = null;
        int[] tree = null;
        if (first == WITH_TREE) {
            tree = answer.readTree(call.caller, book);
        } else {
            int[] sorts = {answerSort(call)};
            Value[] values = come(call.caller, answer, sorts);
            value = values == null || values.length == 0 ? null : values[0];
            tree = value == null ? loneTree(NOTE_VALUE_LACKS, call.caller) : null;
        }
        call.end(value, tree);
        endDeed(call.outer, value, tree);
    }

    /** Reads VALUES that come to a DESK, as far as the message is not yet read; null, and none, if NODES lack. */
    private Value[] come(Desk desk, Incoming message, int[] sorts) {
        int before = nodes.size();
        message.firstNode = before;
        Value[] values = new Value[sorts.length];
        for (int i = 0; i < sorts.length; i++) {
            values[i] = message.readValue(sorts[i], book, nodes);
        }
        if (message.nodesLack) {
            for (int i = nodes.size() - 1; i >= before; i--) {
                nodes.remove(i);
            }
            return null;
        }
        giveAll(desk, values);
        for (int i = before; i < nodes.size(); i++) {
            giveAll(desk, nodes.get(i).fields);
        }
        return values;
    }

    private void giveAll(Desk desk, Value[] values) {
        for (Value value : values) {
            Thing thing = value.sort >= SERVICE ? thingAt(value.number) : null;
            if (thing != null && thing.host != desk) {
                desk.hold(thing);
            }
        }
    }

    private int shelved(Desk desk) {
        int shelved = 0;
        for (int i = 0; i < calls.size(); i++) {
            Call call = calls.get(i);
            if (call.server == desk && call.shelf != null) {
                shelved++;
            }
        }
        return shelved;
    }

    private int begunAt(Desk desk) {
        int begun = 0;
        for (int i = 0; i < calls.size(); i++) {
            Call call = calls.get(i);
            if (call.server == desk && call.begun) {
                begun++;
            }
        }
        return begun;
    }

    private int partsKept(Desk desk) {
        int kept = 0;
        for (int i = 0; i < calls.size(); i++) {
            kept += calls.get(i).partsKeptAt(desk);
        }
        return kept;
    }

    // ---- stocks

    public int supply(int desk, int article, int n) {
        Desk at = deskAt(desk);
        if (at == null) {
            return UNKNOWN;
        }
        if (article < 0 || article >= ARTICLES || n < 1 || n > MOST_UNITS) {
            return OUTSIDE;
        }
        if (at.stocks[article] > MOST_STOCK - n) {
            return FULL;
        }
        at.stocks[article] += n;
        return at.stocks[article];
    }

    public int carry(int desk, int to, int article, int n) {
        Desk from = deskAt(desk);
        Desk server = deskAt(to);
        if (from == null || server == null) {
            return UNKNOWN;
        }
        if (article < 0 || article >= ARTICLES || n < 1 || n > MOST_UNITS) {
            return OUTSIDE;
        }
        if (from == server || from.stocks[article] < n) {
            return NOT;
        }
        if (calls.size() >= MOST_CALLS) {
            return FULL;
        }
        from.stocks[article] -= n;
        Call call = addCall(from, server, null, article, null);
        call.movedUnits = n;
        writer.begin();
        writer.putNumber(CARRY, 1);
        writer.putNumber(article, 1);
        writer.putNumber(server.age, 1);
        writer.putNumber(n, 2);
        call.request = writer.written();
        sendRequest(call);
        return call.number;
    }

    public int stock(int desk, int article) {
        Desk at = deskAt(desk);
        if (at == null && desk != NONE) {
            return UNKNOWN;
        }
        if (article < 0 || article >= ARTICLES) {
            return OUTSIDE;
        }
        return at == null ? moved(article) : at.stocks[article];
    }

    private int moved(int article) {
        int units = 0;
        for (int i = 0; i < calls.size(); i++) {
            Call call = calls.get(i);
            if (call.method == article) {
                units += call.movedUnits;
            }
        }
        return units;
    }

    /** The DEED of a CALL by carry(). */
    private void deliver(Call call, Incoming request) {
        int article = call.method;
        if (article < 0 || article >= ARTICLES) {
            return;
        }
        call.server.stocks[article] += (int) request.readNumber(2);
        call.movedUnits = 0;
        endDeed(call, new Value(INT, call.server.stocks[article], null), null);
    }

    /** THE BOOK: what the description tells, but for the names of fields and methods. */
    private static final class Book {
        int kinds;
        int records;
        int services;
        final long[] kindNames = new long[MOST_KINDS];
        final long[] recordNames = new long[MOST_RECORDS];
        final long[] serviceNames = new long[MOST_SERVICES];
        /** What a kind is of; kind 0 stands first. */
        final int[] above = new int[MOST_KINDS + 1];
        final int[] fieldCounts = new int[MOST_RECORDS];
        final int[] fieldSorts = new int[MOST_RECORDS * MOST_FIELDS];
        final int[] methodCounts = new int[MOST_SERVICES];
        /** By the row of a method, as methodRow() tells it. */
        final int[] answerSorts = new int[MOST_SERVICES * MOST_METHODS];
        final int[] argumentCounts = new int[MOST_SERVICES * MOST_METHODS];
        final int[] argumentSorts = new int[MOST_SERVICES * MOST_METHODS * MOST_ARGUMENTS];

        boolean hasSort(int sort) {
            return sort >= INT && sort <= TEXT
                    || sort >= RECORD && sort < RECORD + records
                    || sort >= SERVICE && sort < SERVICE + services;
        }

        int methodRow(int service, int m) {
            if (service < 0 || service >= services || m < 0 || m >= methodCounts[service]) {
                return NONE;
            }
            return service * MOST_METHODS + m;
        }

        /** Whether VALUES have just the SORTS of a method. */
        boolean fits(int row, Value[] values) {
            if (values.length != argumentCounts[row]) {
                return false;
            }
            for (int i = 0; i < values.length; i++) {
                if (values[i].sort != argumentSorts[row * MOST_ARGUMENTS + i]) {
                    return false;
                }
            }
            return true;
        }

        int[] argumentSortsOf(int service, int m) {
            int row = methodRow(service, m);
            if (row == NONE) {
                return new int[0];
            }
            int from = row * MOST_ARGUMENTS;
            return Arrays.copyOfRange(argumentSorts, from, from + argumentCounts[row]);
        }

        boolean isTold(long name) {
            return find(kindNames, kinds, name) != NONE || sortNamed(name) != NONE;
        }

        /** The kind with a name, or NONE. */
        int kindNamed(long name) {
            int at = find(kindNames, kinds, name);
            return at == NONE ? NONE : at + 1;
        }

        /** The SORT of the record or service with a name, or NONE. */
        int sortNamed(long name) {
            int record = find(recordNames, records, name);
            if (record != NONE) {
                return RECORD + record;
            }
            int service = find(serviceNames, services, name);
            return service == NONE ? NONE : SERVICE + service;
        }

        static int find(long[] names, int count, long name) {
            for (int i = 0; i < count && i < names.length; i++) {
                if (names[i] == name) {
                    return i;
                }
            }
            return NONE;
        }
    }

    /** Reads a description, TOKEN by TOKEN, up to its first FAULT. */
    private static final class BookReader {
        static final int NO_TOKEN = 1, CANNOT_STAND = 2, TOO_MANY = 3, TOLD_ALREADY = 4, NOT_TOLD = 5;
        /** What a TOKEN is; a sign is itself. The words of the SORTS 0 .. 4 are from WORD_INT on. */
        static final int END = 0, BAD = 1, NAME = 2, WORD_FAILURE = 3, WORD_OF = 4, WORD_RECORD = 5, WORD_SERVICE = 6;
        static final int WORD_INT = 7, WORD_TEXT = 11;
        static final int MOST_LETTERS = 8;
        /** The words that are no NAMES, as words are kept: failure of record service int long double boolean text. */
        static final long[] RESERVED = {
            0x6661696c757265L, 0x6f66L, 0x7265636f7264L, 0x73657276696365L,
            0x696e74L, 0x6c6f6e67L, 0x646f75626c65L, 0x626f6f6c65616eL, 0x74657874L
        };

        final Book book = new Book();
        int fault;
        /** The first byte of the TOKEN at hand. */
        int begin;
        private final byte[] text;
        private final int length;
        private int behind;
        private int token;
        /** The letters of a word, eight bits each: 8 of them just fit. */
        private long word;
        /** Names of the fields, or methods, of the record, or service, that is being read. */
        private final long[] members = new long[MOST_METHODS];

        BookReader(byte[] text, int length) {
            this.text = text;
            this.length = Math.min(length, text.length);
        }

        boolean readBook() {
            next();
            for (int i = 0; i <= length; i++) {
                boolean good;
                switch (token) {
                    case END: return true;
                    case WORD_FAILURE: good = readKind(); break;
                    case WORD_RECORD: good = readRecord(); break;
                    case WORD_SERVICE: good = readService(); break;
                    default: good = stray(); break;
                }
                if (!good) {
                    return false;
                }
            }
            return false;
        }

        private boolean readKind() {
            next();
            if (!canBeTold(book.kinds, MOST_KINDS)) {
                return false;
            }
            long name = word;
            int above = 0;
            next();
            if (token == WORD_OF) {
                next();
                if (token != NAME) {
                    return stray();
                }
                above = book.kindNamed(word);
                if (above == NONE) {
                    return flaw(NOT_TOLD);
                }
                next();
            }
            if (!pass(';')) {
                return false;
            }
            book.kindNames[book.kinds] = name;
            book.kinds++;
            book.above[book.kinds] = above;
            return true;
        }

        private boolean readRecord() {
            next();
            if (!canBeTold(book.records, MOST_RECORDS)) {
                return false;
            }
            int record = book.records;
            book.recordNames[record] = word;
            book.records++;
            next();
            if (!pass('{')) {
                return false;
            }
            for (int i = 0; i <= MOST_FIELDS && token != '}'; i++) {
                if (!readField(record, i)) {
                    return false;
                }
            }
            return pass('}');
        }

        private boolean readField(int record, int field) {
            int sort = sortAtHand();
            if (sort == NONE) {
                return sortFlaw();
            }
            next();
            if (!canBeMember(field, MOST_FIELDS)) {
                return false;
            }
            members[field] = word;
            book.fieldSorts[record * MOST_FIELDS + field] = sort;
            book.fieldCounts[record] = field + 1;
            next();
            return pass(';');
        }

        private boolean readService() {
            next();
            if (!canBeTold(book.services, MOST_SERVICES)) {
                return false;
            }
            int service = book.services;
            book.serviceNames[service] = word;
            book.services++;
            next();
            if (!pass('{')) {
                return false;
            }
            for (int i = 0; i <= MOST_METHODS && token != '}'; i++) {
                if (!readMethod(service, i)) {
                    return false;
                }
            }
            return pass('}');
        }

        private boolean readMethod(int service, int method) {
            int sort = sortAtHand();
            if (sort == NONE) {
                return sortFlaw();
            }
            next();
            if (!canBeMember(method, MOST_METHODS)) {
                return false;
            }
            int row = service * MOST_METHODS + method;
            members[method] = word;
            book.answerSorts[row] = sort;
            book.methodCounts[service] = method + 1;
            next();
            return pass('(') && readArguments(row) && pass(')') && pass(';');
        }

        private boolean readArguments(int row) {
            if (token == ')') {
                return true;
            }
            for (int i = 0; i <= MOST_ARGUMENTS; i++) {
                if (i == MOST_ARGUMENTS && isSortLike()) {
                    return flaw(TOO_MANY);
                }
                int sort = sortAtHand();
                if (sort == NONE || i == MOST_ARGUMENTS) {
                    return sortFlaw();
                }
                book.argumentSorts[row * MOST_ARGUMENTS + i] = sort;
                book.argumentCounts[row] = i + 1;
                next();
                if (token != ',') {
                    return true;
                }
                next();
            }
            return false;
        }

        private boolean isSortLike() {
            return token == NAME || token >= WORD_INT && token <= WORD_TEXT;
        }

        /** The SORT that the TOKEN at hand is, or NONE. */
        private int sortAtHand() {
            if (token == NAME) {
                return book.sortNamed(word);
            }
            return isSortLike() ? token - WORD_INT : NONE;
        }

        private boolean sortFlaw() {
            return token == NAME ? flaw(NOT_TOLD) : stray();
        }

        /** Whether the TOKEN at hand can be the NAME of a kind, record or service, of which there are some already. */
        private boolean canBeTold(int already, int most) {
            if (token != NAME) {
                return stray();
            }
            if (already >= most) {
                return flaw(TOO_MANY);
            }
            return !book.isTold(word) || flaw(TOLD_ALREADY);
        }

        /** Whether the TOKEN at hand can be the NAME of a field or method. */
        private boolean canBeMember(int already, int most) {
            if (token != NAME) {
                return stray();
            }
            if (already >= most) {
                return flaw(TOO_MANY);
            }
            return Book.find(members, already, word) == NONE || flaw(TOLD_ALREADY);
        }

        private boolean pass(int expected) {
            if (token != expected) {
                return stray();
            }
            next();
            return true;
        }

        private boolean stray() {
            return flaw(token == BAD ? NO_TOKEN : CANNOT_STAND);
        }

        private boolean flaw(int number) {
            fault = number;
            return false;
        }

        private void next() {
            begin = behind;
            while (begin < length && (text[begin] == ' ' || text[begin] == '\n')) {
                begin++;
            }
            behind = begin;
            if (begin >= length) {
                token = END;
                return;
            }
            while (behind < length && text[behind] >= 'a' && text[behind] <= 'z') {
                behind++;
            }
            if (behind == begin) {
                behind++;
                token = isSign(text[begin]) ? text[begin] : BAD;
                return;
            }
            token = behind - begin > MOST_LETTERS ? BAD : readWord();
        }

        private static boolean isSign(int c) {
            return c == '{' || c == '}' || c == '(' || c == ')' || c == ',' || c == ';';
        }

        private int readWord() {
            word = 0;
            for (int i = begin; i < behind && i < length; i++) {
                word = word << 8 | text[i];
            }
            int reserved = Book.find(RESERVED, RESERVED.length, word);
            return reserved == NONE ? NAME : WORD_FAILURE + reserved;
        }
    }

    /** A VALUE, never changed. */
    private static final class Value {
        final int sort;
        /** A number, or the number of a NODE or OBJECT, or NONE for nothing; not looked at for a text. */
        final long number;
        /** Of a text alone; null for nothing. */
        final byte[] text;

        Value(int sort, long number, byte[] text) {
            this.sort = sort;
            this.number = number;
            this.text = text;
        }

        static Value zero(int sort) {
            return new Value(sort, sort >= RECORD ? NONE : 0, null);
        }

        long tells() {
            if (sort != TEXT) {
                return number;
            }
            return text == null ? NONE : text.length;
        }

        int byteAt(int i) {
            return text == null || i < 0 || i >= text.length ? NONE : text[i] & 255;
        }

        boolean isNode() {
            return sort >= RECORD && sort < SERVICE && number != NONE;
        }
    }

    /** A NODE. */
    private static final class Node {
        final int record;
        final Value[] fields;

        Node(int record, Book book) {
            this.record = record;
            fields = new Value[book.fieldCounts[record]];
            for (int i = 0; i < fields.length; i++) {
                fields[i] = Value.zero(book.fieldSorts[record * MOST_FIELDS + i]);
            }
        }

        void increase() {
            for (int i = 0; i < fields.length; i++) {
                int sort = fields[i].sort;
                long more = fields[i].number + 1;
                if (sort == INT) {
                    fields[i] = new Value(INT, (int) more, null);
                } else if (sort == LONG) {
                    fields[i] = new Value(LONG, more, null);
                }
            }
        }
    }

    /** A FAILURE of the bench. */
    private static final class Failure {
        final int kind;
        final int note;
        final Failure cause;
        final Failure[] beside = new Failure[MOST_BESIDE];
        int besides;

        Failure(int kind, int note, Failure cause) {
            this.kind = kind;
            this.note = note;
            this.cause = cause;
        }
    }

    /** A DESK. */
    private static final class Desk {
        final int number;
        int age;
        int slotsSent;
        int requestsAgain;
        int tookWhole;
        /** By the OBJECT's number: the AGE that the REFERENCE knows; NONE: it HOLDS none. */
        final int[] held = new int[MOST_OBJECTS];
        /** By the kind: whether it does not KNOW it. */
        final boolean[] ignores = new boolean[MOST_KINDS + 1];
        final int[] stocks = new int[ARTICLES];

        Desk(int number) {
            this.number = number;
            Arrays.fill(held, NONE);
        }

        void hold(Thing thing) {
            held[thing.number] = thing.host.age;
        }

        boolean refersTo(Thing thing) {
            return thing.host == this || held[thing.number] != NONE;
        }

        int nearestKnown(int kind, Book book) {
            int at = kind;
            for (int i = 0; i < MOST_KINDS && at > 0 && at <= MOST_KINDS && ignores[at]; i++) {
                at = book.above[at];
            }
            return at;
        }
    }

    /** An OBJECT. */
    private static final class Thing {
        final int number;
        final Desk host;
        final int service;
        final int deed;
        final int with;
        final int m;
        long total;
        int kept = NONE;
        int begun;

        Thing(int number, Desk host, int service, int deed, int with, int m) {
            this.number = number;
            this.host = host;
            this.service = service;
            this.deed = deed;
            this.with = with;
            this.m = m;
        }

        void countIn(Value[] arguments) {
            for (Value argument : arguments) {
                int sort = argument.sort;
                if (sort == INT || sort == LONG || sort == BOOLEAN) {
                    total += argument.number;
                }
            }
        }

        Value totalAs(int sort) {
            switch (sort) {
                case INT: return new Value(INT, (int) total, null);
                case LONG: return new Value(LONG, total, null);
                case DOUBLE: return new Value(DOUBLE, total, null);
                case BOOLEAN: return new Value(BOOLEAN, total == 0 ? 0 : 1, null);
                default: return Value.zero(sort);
            }
        }
    }

    /** A CALL, with what the calling and the serving DESK have of it. */
    private static final class Call {
        final int number;
        final Desk caller;
        final Desk server;
        /** null: carry(). */
        final Thing thing;
        /** Of carry() the article. */
        final int method;
        /** The CALL for whose RELAY it was made, or null. */
        final Call outer;
        final int born;
        int state = ON_THE_WAY;
        int sent;
        boolean begun;
        int movedUnits;
        /** null: no MESSAGE is sent. Kept as bytes, for what is sent again is what was sent first. */
        byte[] request;
        /** The ANSWER on the SHELF, or null. */
        byte[] shelf;
        /** What it answered, if it is ANSWERED; else null. */
        Value value;
        /** What it failed with, if it is FAILED; else null. */
        int[] tree;
        private Incoming requestParts;
        private Incoming answerParts;

        Call(int number, Desk caller, Desk server, Thing thing, int method, Call outer, int born) {
            this.number = number;
            this.caller = caller;
            this.server = server;
            this.thing = thing;
            this.method = method;
            this.outer = outer;
            this.born = born;
        }

        void end(Value answered, int[] failed) {
            state = answered == null ? FAILED : ANSWERED;
            value = answered;
            tree = answered == null ? failed : null;
        }

        void takeBack() {
            if (movedUnits > 0 && method >= 0 && method < ARTICLES) {
                caller.stocks[method] += movedUnits;
                movedUnits = 0;
            }
        }

        /** Made when they are asked for first, as most CALLS are few and the rows are long. */
        Incoming partsOf(int what) {
            if (what == REQUEST) {
                if (requestParts == null) {
                    requestParts = new Incoming();
                }
                return requestParts;
            }
            if (answerParts == null) {
                answerParts = new Incoming();
            }
            return answerParts;
        }

        int partsKeptAt(Desk desk) {
            int kept = 0;
            if (server == desk && requestParts != null) {
                kept += requestParts.kept;
            }
            if (caller == desk && answerParts != null) {
                kept += answerParts.kept;
            }
            return kept;
        }

        /** What a DESK that starts anew has no more. */
        void forget(Desk desk) {
            if (server == desk) {
                begun = false;
                shelf = null;
                if (requestParts != null) {
                    requestParts.drop();
                }
            }
            if (caller == desk) {
                if (answerParts != null) {
                    answerParts.drop();
                }
                if (state == ON_THE_WAY) {
                    state = FORGOTTEN;
                }
            }
        }
    }

    /** PARTS that are kept; when all are there, the MESSAGE is read from them. */
    private static final class Incoming {
        int kept;
        /** The number that the first NODE of the MESSAGE has, or would have, on the bench. */
        int firstNode;
        boolean nodesLack;
        private int parts;
        private int length;
        private int at;
        private final boolean[] here = new boolean[MOST_PARTS];
        private final byte[] bytes = new byte[MESSAGE_BYTES];

        void drop() {
            kept = 0;
            for (int i = 0; i < MOST_PARTS; i++) {
                here[i] = false;
            }
        }

        /** Keeps the PART in a SLOT: whether all are there. */
        boolean keep(byte[] slot, int slotLength) {
            int part = slot[3];
            int of = slot[4];
            if (part < 0 || part >= of || of > MOST_PARTS) {
                return false;
            }
            if (kept > 0 && of != parts) {
                drop();
            }
            if (here[part]) {
                return false;
            }
            int own = slotLength - HEAD_BYTES;
            for (int i = 0; i < own && i < PART_BYTES; i++) {
                bytes[part * PART_BYTES + i] = slot[HEAD_BYTES + i];
            }
            if (part == of - 1) {
                length = part * PART_BYTES + own;
            }
            parts = of;
            here[part] = true;
            kept++;
            return kept == parts;
        }

        void startAt(int first) {
            at = first;
            nodesLack = false;
        }

        long readNumber(int size) {
            long number = 0;
            for (int i = 0; i < size && at < length && at < MESSAGE_BYTES; i++) {
                number = number << 8 | bytes[at] & 255;
                at++;
            }
            return number;
        }

        private byte[] readText() {
            int size = (int) readNumber(1);
            if (size > TEXT_BYTES) {
                return null;
            }
            byte[] text = new byte[size];
            for (int i = 0; i < size; i++) {
                text[i] = (byte) readNumber(1);
            }
            return text;
        }

        /** NODES go onto the bench as they come; when it is full, nothing more is read. */
        Value readValue(int sort, Book book, ArrayList<Node> bench) {
            if (nodesLack) {
                return Value.zero(sort);
            }
            switch (sort) {
                case INT: return new Value(INT, (int) readNumber(4), null);
                case LONG: return new Value(LONG, readNumber(8), null);
                case DOUBLE: return new Value(DOUBLE, readNumber(8), null);
                case BOOLEAN: return new Value(BOOLEAN, readNumber(1), null);
                case TEXT: return new Value(TEXT, 0, readText());
                default: break;
            }
            long first = readNumber(1);
            if (first == NOTHING) {
                return Value.zero(sort);
            }
            if (sort >= SERVICE) {
                return new Value(sort, first, null);
            }
            long number = first == MET ? firstNode + readNumber(1) : readNode(sort - RECORD, book, bench);
            return new Value(sort, number, null);
        }

        private int readNode(int record, Book book, ArrayList<Node> bench) {
            if (record < 0 || record >= book.records || bench.size() >= MOST_NODES) {
                nodesLack = true;
                return NONE;
            }
            int number = bench.size();
            Node node = new Node(record, book);
            bench.add(node);
            for (int i = 0; i < node.fields.length; i++) {
                node.fields[i] = readValue(node.fields[i].sort, book, bench);
            }
            return number;
        }

        /** A TREE, which comes to a DESK. */
        int[] readTree(Desk desk, Book book) {
            int size = Math.max(0, (length - at) / TREE_ROW_BYTES);
            int[] tree = new int[size * TREE_ROW];
            for (int i = 0; i < size; i++) {
                int row = i * TREE_ROW;
                tree[row] = desk.nearestKnown((int) readNumber(1), book);
                tree[row + 1] = (int) readNumber(2);
                tree[row + 2] = (int) readNumber(1);
                tree[row + 3] = (int) readNumber(1);
                tree[row + 4] = (int) readNumber(1);
            }
            return tree;
        }
    }

    /** A MESSAGE that is being written. */
    private static final class Writer {
        boolean tooGreat;
        private int length;
        private int metCount;
        private final byte[] bytes = new byte[MESSAGE_BYTES];
        private final int[] met = new int[MESSAGE_NODES];

        void begin() {
            tooGreat = false;
            length = 0;
            metCount = 0;
        }

        byte[] written() {
            return Arrays.copyOf(bytes, length);
        }

        void putNumber(long number, int size) {
            if (size > MESSAGE_BYTES - length) {
                tooGreat = true;
                return;
            }
            for (int i = size - 1; i >= 0; i--) {
                bytes[length] = (byte) (number >> 8 * i);
                length++;
            }
        }

        /** What is TOO GREAT is written no further: a chain of NODES of the bench may be long. */
        void putValue(Value value, ArrayList<Node> bench) {
            if (tooGreat) {
                return;
            }
            if (value.sort == TEXT) {
                putNumber(value.text == null ? NOTHING : value.text.length, 1);
                putBytes(value.text == null ? NO_BYTES : value.text);
            } else if (value.sort < RECORD) {
                putNumber(value.number, value.sort == INT ? 4 : value.sort == BOOLEAN ? 1 : 8);
            } else if (value.number == NONE) {
                putNumber(NOTHING, 1);
            } else if (value.sort >= SERVICE) {
                putNumber(value.number, 1);
            } else {
                putNode((int) value.number, bench);
            }
        }

        private void putBytes(byte[] more) {
            if (more.length > MESSAGE_BYTES - length) {
                tooGreat = true;
                return;
            }
            for (byte one : more) {
                bytes[length] = one;
                length++;
            }
        }

        private void putNode(int number, ArrayList<Node> bench) {
            for (int i = 0; i < metCount; i++) {
                if (met[i] == number) {
                    putNumber(MET, 1);
                    putNumber(i, 1);
                    return;
                }
            }
            if (metCount >= MESSAGE_NODES || number < 0 || number >= bench.size()) {
                tooGreat = true;
                return;
            }
            met[metCount] = number;
            metCount++;
            putNumber(NEW, 1);
            for (Value field : bench.get(number).fields) {
                putValue(field, bench);
            }
        }

        void putTree(int[] tree) {
            putNumber(WITH_TREE, 1);
            for (int row = 0; row <= tree.length - TREE_ROW; row += TREE_ROW) {
                putNumber(tree[row], 1);
                putNumber(tree[row + 1], 2);
                putNumber(tree[row + 2], 1);
                putNumber(tree[row + 3], 1);
                putNumber(tree[row + 4], 1);
            }
        }
    }

    /** SLOTS on the way. */
    private static final class Wire {
        int slots;
        int lost;
        /** A copy of one SLOT, which stays while others come. */
        final byte[] copy = new byte[HEAD_BYTES + PART_BYTES];
        int copyLength;
        private final byte[][] rows = new byte[MOST_SLOTS][HEAD_BYTES + PART_BYTES];
        private final int[] lengths = new int[MOST_SLOTS];
        /** Which row SLOT i has; behind the SLOTS are the rows that are free. */
        private final int[] order = new int[MOST_SLOTS];

        Wire() {
            for (int i = 0; i < MOST_SLOTS; i++) {
                order[i] = i;
            }
        }

        int byteOf(int i, int k) {
            int row = order[i];
            return k < 0 || k >= lengths[row] ? NONE : rows[row][k] & 255;
        }

        void takeOff(int i) {
            int row = order[i];
            for (int j = i; j < slots - 1; j++) {
                order[j] = order[j + 1];
            }
            slots--;
            order[slots] = row;
        }

        /** For one SLOT more. */
        void makeRoom() {
            if (slots >= MOST_SLOTS) {
                takeOff(0);
                lost++;
            }
        }

        /** Only behind makeRoom(). */
        void add(int ends, int what, int call, int part, int parts, byte[] bytes) {
            if (slots >= MOST_SLOTS) {
                return;
            }
            int row = order[slots];
            slots++;
            byte[] slot = rows[row];
            slot[0] = (byte) ends;
            slot[1] = (byte) what;
            slot[2] = (byte) call;
            slot[3] = (byte) part;
            slot[4] = (byte) parts;
            int from = part * PART_BYTES;
            int own = Math.max(0, Math.min(PART_BYTES, bytes.length - from));
            for (int i = 0; i < own; i++) {
                slot[HEAD_BYTES + i] = bytes[from + i];
            }
            lengths[row] = HEAD_BYTES + own;
        }

        void copyOut(int i) {
            int row = order[i];
            copyLength = lengths[row];
            for (int k = 0; k < copyLength; k++) {
                copy[k] = rows[row][k];
            }
        }

        /** Only behind makeRoom(). */
        void addCopy() {
            if (slots >= MOST_SLOTS) {
                return;
            }
            int row = order[slots];
            slots++;
            lengths[row] = copyLength;
            for (int k = 0; k < copyLength; k++) {
                rows[row][k] = copy[k];
            }
        }
    }
}
