import java.util.ArrayList;
import java.util.Arrays;
import java.util.HashMap;
import java.util.HashSet;
import java.util.LinkedHashMap;
import java.util.List;
import java.util.Map;
import java.util.Set;
import java.util.TreeMap;
import java.util.function.Consumer;

/**
 * The document once more, written the short way with the Java library: maps by name, messages as lists, relays as
 * functions that wait. ModelTest holds RemoteDesks against it; where both are wrong in the same way, it says nothing.
 */
final class Model {
    static final int NONE = -1, UNKNOWN = -100001, OUTSIDE = -100002, NOT = -100003, FULL = -100004;

    /** A value; the number of a text is not looked at. */
    private record Val(int sort, long num, List<Integer> text) {
        long told() {
            return sort != 4 ? num : text == null ? NONE : text.size();
        }

        int letter(int i) {
            return sort != 4 || text == null || i < 0 || i >= text.size() ? NONE : text.get(i);
        }
    }

    /** One failure of a tree: kind, note, desk, cause, beside. */
    private record Knot(int kind, int note, int desk, int cause, int beside) {
    }

    /** What a deed ends with: a value or a tree. */
    private record Outcome(Val val, List<Knot> tree) {
    }

    private record Method(int answer, List<Integer> arguments) {
    }

    private record Fail(int kind, int note, int cause, List<Integer> beside) {
    }

    private record Obj(int desk, int service, int deed, int with, int m) {
    }

    private static final class Desk {
        int age;
        final Map<Integer, Integer> refs = new TreeMap<>();
        final Set<Integer> ignored = new HashSet<>();
        final Map<Integer, List<Integer>> shelf = new HashMap<>();
        final Set<Integer> begun = new HashSet<>();
        /** By call * 2 + what: the part's number to its bytes, and under -1 how many there are. */
        final Map<Integer, TreeMap<Integer, List<Integer>>> parts = new HashMap<>();
        final int[] stock = new int[4];
        int slotsSent, again, whole;
    }

    private static final class Call {
        int desk, server, object, method, outer = NONE, state, sent, born, moved;
        List<Integer> request;
        Outcome outcome;
        Consumer<Call> waiting = c -> { };
    }

    private static final class Fault extends RuntimeException {
        private static final long serialVersionUID = 1;
        final int number, place;

        Fault(int number, int place) {
            this.number = number;
            this.place = place;
        }
    }

    private static final class TooGreat extends RuntimeException {
        private static final long serialVersionUID = 1;
    }

    private static final class Lack extends RuntimeException {
        private static final long serialVersionUID = 1;
    }

    private final StringBuilder tape = new StringBuilder();
    private boolean book;
    private int place = NONE;
    private Map<String, Integer> kinds = new LinkedHashMap<>();
    private List<Integer> above = new ArrayList<>(List.of(0));
    private Map<String, Integer> sorts = new LinkedHashMap<>();
    private List<List<Integer>> records = new ArrayList<>();
    private List<List<Method>> services = new ArrayList<>();
    private List<Integer> letters = new ArrayList<>();
    private final List<Val> hand = new ArrayList<>();
    private final List<Integer> nodeRecords = new ArrayList<>();
    private final List<List<Val>> nodes = new ArrayList<>();
    private final List<Desk> desks = new ArrayList<>();
    private final List<Obj> objects = new ArrayList<>();
    private final List<long[]> totals = new ArrayList<>();
    private final List<int[]> keptAndBegun = new ArrayList<>();
    private final List<Fail> failures = new ArrayList<>();
    private final List<Call> calls = new ArrayList<>();
    private final List<List<Integer>> slots = new ArrayList<>();
    private int time, lost;

    // ---- the book

    int feed(int a, int b, int c, int d, int e) {
        if (tape.length() + 20 > 1500) {
            return FULL;
        }
        for (int n : new int[] {a, b, c, d, e}) {
            for (int i = 3; i >= 0; i--) {
                tape.append((char) (n >>> 8 * i & 255));
            }
        }
        return tape.length();
    }

    int cut(int n) {
        if (n < 0 || n > tape.length()) {
            return OUTSIDE;
        }
        int went = tape.length() - n;
        tape.setLength(n);
        return went;
    }

    private List<String> tokens;
    private List<Integer> begins;
    private int at;
    private static final Set<String> RESERVED =
        Set.of("failure", "of", "record", "service", "int", "long", "double", "boolean", "text");
    private static final List<String> BASIC = List.of("int", "long", "double", "boolean", "text");

    private void scan(String text) {
        tokens = new ArrayList<>();
        begins = new ArrayList<>();
        java.util.regex.Matcher m = java.util.regex.Pattern.compile("[a-z]+|[^ \n]").matcher(text);
        while (m.find()) {
            tokens.add(m.group());
            begins.add(m.start());
        }
        tokens.add("");
        begins.add(text.length());
        at = 0;
    }

    private RuntimeException fault(int number) {
        return new Fault(number, begins.get(at));
    }

    private boolean bad() {
        return !tokens.get(at).matches("[a-z]{1,8}|[{}(),;]|");
    }

    private boolean is(String token) {
        if (bad()) {
            throw fault(1);
        }
        return tokens.get(at).equals(token);
    }

    private void need(String token) {
        if (!is(token)) {
            throw fault(2);
        }
        at++;
    }

    private String name(int have, int most, Set<String> told) {
        String t = anyName();
        if (have >= most) {
            throw fault(3);
        }
        if (told.contains(t)) {
            throw fault(4);
        }
        at++;
        return t;
    }

    private String anyName() {
        if (bad()) {
            throw fault(1);
        }
        String t = tokens.get(at);
        if (!t.matches("[a-z]+") || RESERVED.contains(t)) {
            throw fault(2);
        }
        return t;
    }

    private int sort(int have, int most) {
        int basic = BASIC.indexOf(tokens.get(at));
        String t = basic >= 0 ? "" : anyName();
        if (have >= most) {
            throw fault(3);
        }
        if (basic < 0 && !sorts.containsKey(t)) {
            throw fault(5);
        }
        at++;
        return basic >= 0 ? basic : sorts.get(t);
    }

    private Set<String> top() {
        Set<String> all = new HashSet<>(kinds.keySet());
        all.addAll(sorts.keySet());
        return all;
    }

    private void readBook() {
        while (!is("")) {
            if (is("failure")) {
                at++;
                String n = name(kinds.size(), 8, top());
                int up = 0;
                if (is("of")) {
                    at++;
                    if (!kinds.containsKey(anyName())) {
                        throw fault(5);
                    }
                    up = kinds.get(tokens.get(at++));
                }
                need(";");
                kinds.put(n, kinds.size() + 1);
                above.add(up);
            } else if (is("record")) {
                at++;
                String n = name(records.size(), 6, top());
                List<Integer> fields = new ArrayList<>();
                sorts.put(n, 10 + records.size());
                records.add(fields);
                need("{");
                Set<String> own = new HashSet<>();
                while (!is("}")) {
                    int s = sort(0, 1);
                    own.add(name(fields.size(), 6, own));
                    fields.add(s);
                    need(";");
                }
                at++;
            } else if (is("service")) {
                at++;
                String n = name(services.size(), 8, top());
                List<Method> methods = new ArrayList<>();
                sorts.put(n, 20 + services.size());
                services.add(methods);
                need("{");
                Set<String> own = new HashSet<>();
                while (!is("}")) {
                    int s = sort(0, 1);
                    own.add(name(methods.size(), 8, own));
                    need("(");
                    List<Integer> arguments = new ArrayList<>();
                    if (!is(")")) {
                        arguments.add(sort(arguments.size(), 3));
                        while (is(",")) {
                            at++;
                            arguments.add(sort(arguments.size(), 3));
                        }
                    }
                    need(")");
                    need(";");
                    methods.add(new Method(s, arguments));
                }
                at++;
            } else {
                throw fault(2);
            }
        }
    }

    int describe() {
        if (book) {
            return NOT;
        }
        scan(tape.toString());
        tape.setLength(0);
        place = NONE;
        try {
            readBook();
        } catch (Fault f) {
            place = f.place;
            kinds = new LinkedHashMap<>();
            above = new ArrayList<>(List.of(0));
            sorts = new LinkedHashMap<>();
            records = new ArrayList<>();
            services = new ArrayList<>();
            return -1 - f.number;
        }
        book = true;
        return services.size();
    }

    int place() {
        return place;
    }

    int count(int what) {
        int[] all = {kinds.size() + 1, records.size(), services.size(), desks.size(), objects.size(), nodes.size(),
            failures.size(), calls.size(), slots.size(), time, lost};
        return what < 0 || what >= all.length ? OUTSIDE : all[what];
    }

    // ---- values

    private static <T> boolean has(List<T> list, long i) {
        return i >= 0 && i < list.size();
    }

    private static Val zero(int sort) {
        return new Val(sort, sort < 5 ? 0 : NONE, null);
    }

    private List<Val> newNode(int record) {
        if (nodes.size() == 60) {
            throw new Lack();
        }
        List<Val> fields = new ArrayList<>();
        records.get(record).forEach(s -> fields.add(zero(s)));
        nodes.add(fields);
        nodeRecords.add(record);
        return fields;
    }

    int node(int record) {
        if (!has(records, record)) {
            return UNKNOWN;
        }
        if (nodes.size() == 60) {
            return FULL;
        }
        newNode(record);
        return nodes.size() - 1;
    }

    private boolean fits(int sort, long v) {
        if (sort == 0) {
            return v >= Integer.MIN_VALUE && v <= Integer.MAX_VALUE;
        }
        if (sort == 3) {
            return v == 0 || v == 1;
        }
        if (sort < 5 || v == NONE) {
            return true;
        }
        if (sort < 20) {
            return has(nodes, v) && nodeRecords.get((int) v) == sort - 10;
        }
        return has(objects, v) && objects.get((int) v).service == sort - 20;
    }

    private Val make(int sort, long v) {
        if (sort != 4 || v == NONE) {
            return sort == 4 ? zero(4) : new Val(sort, v, null);
        }
        List<Integer> text = letters;
        letters = new ArrayList<>();
        return new Val(4, 0, text);
    }

    int set(int node, int field, long v) {
        if (!has(nodes, node) || !has(nodes.get(node), field)) {
            return UNKNOWN;
        }
        int sort = nodes.get(node).get(field).sort;
        if (!fits(sort, v)) {
            return OUTSIDE;
        }
        nodes.get(node).set(field, make(sort, v));
        return 1;
    }

    long field(int node, int field) {
        return !has(nodes, node) || !has(nodes.get(node), field) ? UNKNOWN : nodes.get(node).get(field).told();
    }

    int letterAt(int node, int field, int i) {
        return !has(nodes, node) || !has(nodes.get(node), field) ? UNKNOWN : nodes.get(node).get(field).letter(i);
    }

    int letter(int c) {
        if (letters.size() == 16) {
            return FULL;
        }
        letters.add(c & 255);
        return letters.size();
    }

    int hand(int sort, long v) {
        boolean there = sort >= 0 && sort <= 4 || has(records, sort - 10L) || has(services, sort - 20L);
        if (!there || !fits(sort, v)) {
            return OUTSIDE;
        }
        if (hand.size() == 3) {
            return FULL;
        }
        hand.add(make(sort, v));
        return hand.size();
    }

    int open() {
        int n = hand.size();
        hand.clear();
        return n;
    }

    // ---- desks, objects, failures

    int desk() {
        if (desks.size() == 8) {
            return FULL;
        }
        desks.add(new Desk());
        return desks.size() - 1;
    }

    int object(int desk, int service, int deed, int with, int m) {
        if (!has(desks, desk) || !has(services, service)) {
            return UNKNOWN;
        }
        if (deed == 2 && !has(failures, with) || deed == 5 && !has(objects, with) && with != objects.size()) {
            return UNKNOWN;
        }
        if (deed < 0 || deed > 5 || deed == 5 && (m < 0 || m > 7)) {
            return OUTSIDE;
        }
        if (objects.size() == 24) {
            return FULL;
        }
        objects.add(new Obj(desk, service, deed, with, m));
        totals.add(new long[1]);
        keptAndBegun.add(new int[] {NONE, 0});
        return objects.size() - 1;
    }

    private List<Knot> tree(int f, int desk) {
        Fail fail = failures.get(f);
        List<Knot> all = new ArrayList<>();
        all.add(new Knot(fail.kind, fail.note, desk, fail.cause == NONE ? 0 : 1, fail.beside.size()));
        if (fail.cause != NONE) {
            all.addAll(tree(fail.cause, desk));
        }
        fail.beside.forEach(g -> all.addAll(tree(g, desk)));
        return all;
    }

    int failure(int kind, int note, int cause) {
        if (kind < 0 || kind > kinds.size() || cause != NONE && !has(failures, cause)) {
            return UNKNOWN;
        }
        if (note < 0 || note > 999) {
            return OUTSIDE;
        }
        if (failures.size() == 16 || cause != NONE && tree(cause, 0).size() > 11) {
            return FULL;
        }
        failures.add(new Fail(kind, note, cause, new ArrayList<>()));
        return failures.size() - 1;
    }

    int beside(int f, int g) {
        if (!has(failures, f) || !has(failures, g)) {
            return UNKNOWN;
        }
        if (g >= f) {
            return NOT;
        }
        List<Integer> beside = failures.get(f).beside;
        if (beside.size() == 2) {
            return FULL;
        }
        beside.add(g);
        for (int i = 0; i < failures.size(); i++) {
            if (tree(i, 0).size() > 12) {
                beside.remove(beside.size() - 1);
                return FULL;
            }
        }
        return beside.size();
    }

    int knows(int desk, int kind, boolean on) {
        if (!has(desks, desk) || kind < 0 || kind > kinds.size()) {
            return UNKNOWN;
        }
        if (kind == 0) {
            return NOT;
        }
        Set<Integer> ignored = desks.get(desk).ignored;
        int did = ignored.contains(kind) ? 0 : 1;
        if (on) {
            ignored.remove(kind);
        } else {
            ignored.add(kind);
        }
        return did;
    }

    int give(int desk, int object) {
        if (!has(desks, desk) || !has(objects, object)) {
            return UNKNOWN;
        }
        if (objects.get(object).desk == desk) {
            return NOT;
        }
        int age = desks.get(objects.get(object).desk).age;
        desks.get(desk).refs.put(object, age);
        return age;
    }

    int release(int desk, int object) {
        if (!has(desks, desk) || !has(objects, object)) {
            return UNKNOWN;
        }
        if (objects.get(object).desk == desk) {
            return NOT;
        }
        return desks.get(desk).refs.remove(object) == null ? 0 : 1;
    }

    int reference(int desk, int object) {
        return !has(desks, desk) || !has(objects, object) ? UNKNOWN : desks.get(desk).refs.getOrDefault(object, NONE);
    }

    int told(int object, int what) {
        if (!has(objects, object)) {
            return UNKNOWN;
        }
        int holders = (int) desks.stream().filter(d -> d.refs.containsKey(object)).count();
        long total = totals.get(object)[0];
        Obj o = objects.get(object);
        int[] all = {o.desk, holders, keptAndBegun.get(object)[1], (int) total, (int) (total >>> 32),
            keptAndBegun.get(object)[0], o.service};
        return what < 0 || what > 6 ? OUTSIDE : all[what];
    }

    // ---- calls

    private static void number(List<Integer> to, long v, int size) {
        for (int i = size - 1; i >= 0; i--) {
            to.add((int) (v >> 8 * i & 255));
        }
    }

    private void write(List<Integer> to, Val v, List<Integer> met) {
        if (v.sort < 4) {
            number(to, v.num, new int[] {4, 8, 8, 1}[v.sort]);
        } else if (v.sort == 4) {
            to.add(v.text == null ? 255 : v.text.size());
            to.addAll(v.text == null ? List.of() : v.text);
        } else if (v.num == NONE) {
            to.add(255);
        } else if (v.sort >= 20) {
            to.add((int) v.num);
        } else if (met.contains((int) v.num)) {
            to.add(254);
            to.add(met.indexOf((int) v.num));
        } else {
            to.add(253);
            met.add((int) v.num);
            nodes.get((int) v.num).forEach(f -> write(to, f, met));
        }
    }

    private List<Integer> message(List<Integer> head, List<Val> values) {
        List<Integer> all = new ArrayList<>(head);
        List<Integer> met = new ArrayList<>();
        values.forEach(v -> write(all, v, met));
        if (all.size() > 240 || met.size() > 12) {
            throw new TooGreat();
        }
        return all;
    }

    private Method method(int object, int m) {
        List<Method> all = services.get(objects.get(object).service);
        return has(all, m) ? all.get(m) : null;
    }

    private static List<Integer> sortsOf(List<Val> values) {
        return values.stream().map(Val::sort).toList();
    }

    private boolean refers(int desk, int object) {
        return objects.get(object).desk == desk || desks.get(desk).refs.containsKey(object);
    }

    private List<Integer> requestTo(int desk, int object, int m, List<Val> values) {
        return objects.get(object).desk == desk ? null
            : message(List.of(object, m, desks.get(desk).refs.get(object)), values);
    }

    int call(int desk, int object, int m) {
        if (!has(desks, desk) || !has(objects, object) || method(object, m) == null) {
            return UNKNOWN;
        }
        if (!refers(desk, object) || !sortsOf(hand).equals(method(object, m).arguments)) {
            return NOT;
        }
        List<Val> values = List.copyOf(hand);
        List<Integer> request;
        try {
            request = requestTo(desk, object, m, values);
        } catch (TooGreat e) {
            return FULL;
        }
        if (calls.size() == 60) {
            return FULL;
        }
        hand.clear();
        int number = calls.size();
        begin(desk, objects.get(object).desk, object, m, NONE, request, values, c -> { });
        return number;
    }

    private void begin(int desk, int server, int object, int m, int outer, List<Integer> request, List<Val> values,
            Consumer<Call> waiting) {
        Call c = new Call();
        c.desk = desk;
        c.server = server;
        c.object = object;
        c.method = m;
        c.outer = outer;
        c.request = request;
        c.born = time;
        c.waiting = waiting;
        int number = calls.size();
        calls.add(c);
        if (request == null) {
            deed(number, object, m, values, o -> finish(c, o.val != null ? 1 : 2, o));
        } else {
            send(c, number);
        }
    }

    private void finish(Call c, int state, Outcome outcome) {
        c.state = state;
        c.outcome = outcome;
        c.waiting.accept(c);
    }

    private void send(Call c, int number) {
        c.sent++;
        post(c.desk, c.server, 0, number, c.request);
    }

    private void post(int from, int to, int what, int call, List<Integer> bytes) {
        int parts = Math.max(1, (bytes.size() + 23) / 24);
        for (int p = 0; p < parts; p++) {
            List<Integer> slot = new ArrayList<>(List.of(from * 16 + to, what, call, p, parts));
            slot.addAll(bytes.subList(24 * p, Math.min(24 * p + 24, bytes.size())));
            onTheWay(slot);
            desks.get(from).slotsSent++;
        }
    }

    private void onTheWay(List<Integer> slot) {
        slots.add(slot);
        if (slots.size() > 40) {
            slots.remove(0);
            lost++;
        }
    }

    private static Outcome lone(int note, int desk) {
        return new Outcome(null, List.of(new Knot(0, note, desk, 0, 0)));
    }

    private static Val echo(int sort, List<Val> values) {
        return values.stream().filter(v -> v.sort == sort).findFirst().orElse(zero(sort));
    }

    private void deed(int call, int object, int m, List<Val> values, Consumer<Outcome> ends) {
        Obj o = objects.get(object);
        int sort = method(object, m).answer;
        keptAndBegun.get(object)[1]++;
        switch (o.deed) {
            case 0 -> ends.accept(new Outcome(echo(sort, values), null));
            case 1 -> {
                values.stream().filter(v -> Set.of(0, 1, 3).contains(v.sort)).forEach(v -> totals.get(object)[0] += v.num);
                long t = totals.get(object)[0];
                ends.accept(new Outcome(sort > 3 ? zero(sort)
                    : new Val(sort, sort == 0 ? (int) t : sort == 3 ? (t != 0 ? 1 : 0) : t, null), null));
            }
            case 2 -> ends.accept(new Outcome(null, tree(o.with, o.desk)));
            case 3 -> {
                int before = keptAndBegun.get(object)[0];
                int[] now = {NONE};
                values.stream().filter(v -> v.sort >= 20).forEach(v -> now[0] = (int) v.num);
                keptAndBegun.get(object)[0] = now[0];
                boolean same = before != NONE && objects.get(before).service == sort - 20;
                ends.accept(new Outcome(same ? new Val(sort, before, null) : zero(sort), null));
            }
            case 4 -> {
                Set<Integer> reached = new HashSet<>();
                values.forEach(v -> reach(v, reached));
                reached.forEach(n -> nodes.get(n).replaceAll(f -> f.sort == 0 ? new Val(0, (int) (f.num + 1), null)
                    : f.sort == 1 ? new Val(1, f.num + 1, null) : f));
                ends.accept(new Outcome(echo(sort, values), null));
            }
            default -> relay(call, o, sort, values, ends);
        }
    }

    private void reach(Val v, Set<Integer> reached) {
        if (v.sort >= 10 && v.sort < 20 && v.num != NONE && reached.add((int) v.num)) {
            nodes.get((int) v.num).forEach(f -> reach(f, reached));
        }
    }

    private void relay(int call, Obj o, int sort, List<Val> values, Consumer<Outcome> ends) {
        Method target = method(o.with, o.m);
        if (!refers(o.desk, o.with)) {
            ends.accept(lone(904, o.desk));
        } else if (target == null || target.answer != sort || !target.arguments.equals(sortsOf(values))) {
            ends.accept(lone(905, o.desk));
        } else if (calls.size() == 60) {
            ends.accept(lone(906, o.desk));
        } else {
            List<Integer> request;
            try {
                request = requestTo(o.desk, o.with, o.m, values);
            } catch (TooGreat e) {
                ends.accept(lone(907, o.desk));
                return;
            }
            begin(o.desk, objects.get(o.with).desk, o.with, o.m, call, request, values, c -> ends.accept(
                c.state == 3 ? lone(908, o.desk) : c.state == 4 ? lone(909, o.desk) : c.outcome));
        }
    }

    int state(int call) {
        return has(calls, call) ? calls.get(call).state : UNKNOWN;
    }

    long value(int call) {
        return !has(calls, call) ? UNKNOWN : calls.get(call).state != 1 ? NONE : calls.get(call).outcome.val.told();
    }

    int letterOf(int call, int i) {
        return !has(calls, call) ? UNKNOWN : calls.get(call).state != 1 ? NONE : calls.get(call).outcome.val.letter(i);
    }

    int tree(int call, int i, int what) {
        if (!has(calls, call)) {
            return UNKNOWN;
        }
        List<Knot> tree = calls.get(call).state == 2 ? calls.get(call).outcome.tree : List.of();
        if (i == -1) {
            return tree.size();
        }
        if (!has(tree, i)) {
            return UNKNOWN;
        }
        Knot k = tree.get(i);
        return what < 0 || what > 4 ? OUTSIDE : new int[] {k.kind, k.note, k.desk, k.cause, k.beside}[what];
    }

    int about(int call, int what) {
        if (!has(calls, call)) {
            return UNKNOWN;
        }
        Call c = calls.get(call);
        int begun = desks.get(c.server).begun.contains(call) ? 1 : 0;
        return what < 0 || what > 5 ? OUTSIDE : new int[] {c.desk, c.object, c.method, c.outer, c.sent, begun}[what];
    }

    // ---- slots, time

    int slot(int i, int k) {
        return !has(slots, i) ? UNKNOWN : has(slots.get(i), k) ? slots.get(i).get(k) : NONE;
    }

    int through(int i) {
        if (!has(slots, i)) {
            return UNKNOWN;
        }
        arrive(slots.remove(i));
        return slots.size();
    }

    int lose(int i) {
        if (!has(slots, i)) {
            return UNKNOWN;
        }
        slots.remove(i);
        return slots.size();
    }

    int twice(int i) {
        if (!has(slots, i)) {
            return UNKNOWN;
        }
        onTheWay(slots.get(i));
        return slots.size();
    }

    private void arrive(List<Integer> slot) {
        Desk desk = desks.get(slot.get(0) % 16);
        int what = slot.get(1);
        int call = slot.get(2);
        if (what == 2) {
            desk.shelf.remove(call);
            return;
        }
        int key = call * 2 + what;
        TreeMap<Integer, List<Integer>> kept = desk.parts.computeIfAbsent(key, k -> new TreeMap<>());
        if (!kept.isEmpty() && kept.get(-1).get(0).intValue() != slot.get(4)) {
            kept.clear();
        }
        kept.put(-1, List.of(slot.get(4)));
        kept.putIfAbsent(slot.get(3), slot.subList(5, slot.size()));
        if (kept.size() - 1 < slot.get(4)) {
            return;
        }
        desk.parts.remove(key);
        kept.remove(-1);
        List<Integer> bytes = new ArrayList<>();
        kept.values().forEach(bytes::addAll);
        desk.whole++;
        if (what == 0) {
            request(call, calls.get(call), desk, bytes);
        } else {
            answer(call, calls.get(call), desk, bytes);
        }
    }

    private void request(int call, Call c, Desk desk, List<Integer> bytes) {
        if (desk.shelf.containsKey(call)) {
            post(c.server, c.desk, 1, call, desk.shelf.get(call));
            return;
        }
        if (desk.begun.contains(call)) {
            return;
        }
        if (bytes.get(2) != desk.age) {
            post(c.server, c.desk, 1, call, List.of(2));
            return;
        }
        desk.begun.add(call);
        Consumer<Outcome> ends = o -> {
            List<Integer> answer = new ArrayList<>();
            if (o.val != null) {
                try {
                    answer = message(List.of(0), List.of(o.val));
                } catch (TooGreat e) {
                    answer = treeBytes(lone(901, c.server).tree);
                }
            } else {
                answer = treeBytes(o.tree);
            }
            desk.shelf.put(call, answer);
            post(c.server, c.desk, 1, call, answer);
        };
        if (bytes.get(0) == 250) {
            int article = bytes.get(1);
            desk.stock[article] += bytes.get(3) * 256 + bytes.get(4);
            c.moved = 0;
            ends.accept(new Outcome(new Val(0, desk.stock[article], null), null));
            return;
        }
        List<Val> values = come(c.server, bytes.subList(3, bytes.size()), method(bytes.get(0), bytes.get(1)).arguments);
        if (values == null) {
            ends.accept(lone(902, c.server));
        } else {
            deed(call, bytes.get(0), bytes.get(1), values, ends);
        }
    }

    private static List<Integer> treeBytes(List<Knot> tree) {
        List<Integer> all = new ArrayList<>(List.of(1));
        for (Knot k : tree) {
            all.addAll(List.of(k.kind, k.note / 256, k.note % 256, k.desk, k.cause, k.beside));
        }
        return all;
    }

    private void answer(int call, Call c, Desk desk, List<Integer> bytes) {
        post(c.desk, c.server, 2, call, List.of());
        if (c.state != 0) {
            return;
        }
        if (bytes.get(0) == 2) {
            if (c.moved > 0) {
                desk.stock[c.method] += c.moved;
                c.moved = 0;
            }
            finish(c, 4, null);
        } else if (bytes.get(0) == 1) {
            List<Knot> tree = new ArrayList<>();
            for (int i = 1; i < bytes.size(); i += 6) {
                int kind = bytes.get(i);
                while (desk.ignored.contains(kind)) {
                    kind = above.get(kind);
                }
                tree.add(new Knot(kind, bytes.get(i + 1) * 256 + bytes.get(i + 2), bytes.get(i + 3), bytes.get(i + 4),
                    bytes.get(i + 5)));
            }
            finish(c, 2, new Outcome(null, tree));
        } else {
            int sort = c.object == NONE ? 0 : method(c.object, c.method).answer;
            List<Val> values = come(c.desk, bytes.subList(1, bytes.size()), List.of(sort));
            if (values == null) {
                finish(c, 2, lone(903, c.desk));
            } else {
                finish(c, 1, new Outcome(values.get(0), null));
            }
        }
    }

    private List<Integer> source;
    private int read, first;
    private List<Integer> came;

    private List<Val> come(int desk, List<Integer> bytes, List<Integer> sorts) {
        source = bytes;
        read = 0;
        first = nodes.size();
        came = new ArrayList<>();
        List<Val> values = new ArrayList<>();
        try {
            sorts.forEach(s -> values.add(read(s)));
        } catch (Lack e) {
            while (nodes.size() > first) {
                nodes.remove(nodes.size() - 1);
                nodeRecords.remove(nodeRecords.size() - 1);
            }
            return null;
        }
        came.forEach(o -> give(desk, o));
        return values;
    }

    private long number(int size) {
        long v = 0;
        for (int i = 0; i < size; i++) {
            v = v * 256 + source.get(read++);
        }
        return v;
    }

    private Val read(int sort) {
        if (sort < 4) {
            long v = number(new int[] {4, 8, 8, 1}[sort]);
            return new Val(sort, sort == 0 ? (int) v : v, null);
        }
        int b = source.get(read++);
        if (b == 255) {
            return zero(sort);
        }
        if (sort == 4) {
            read += b;
            return new Val(4, 0, List.copyOf(source.subList(read - b, read)));
        }
        if (sort >= 20) {
            came.add(b);
            return new Val(sort, b, null);
        }
        if (b == 254) {
            return new Val(sort, first + source.get(read++), null);
        }
        List<Val> fields = newNode(sort - 10);
        int number = nodes.size() - 1;
        for (int i = 0; i < fields.size(); i++) {
            fields.set(i, read(fields.get(i).sort));
        }
        return new Val(sort, number, null);
    }

    int tick(int n) {
        if (n < 0 || n > 100) {
            return OUTSIDE;
        }
        for (int i = 0; i < n; i++) {
            time++;
            for (int k = 0; k < calls.size(); k++) {
                Call c = calls.get(k);
                int since = time - c.born;
                if (c.state == 0 && c.request != null && since == 36) {
                    finish(c, 3, null);
                } else if (c.state == 0 && c.request != null && List.of(4, 8, 12, 16, 20, 24, 28, 32).contains(since)) {
                    desks.get(c.desk).again++;
                    send(c, k);
                }
            }
        }
        return time;
    }

    int restart(int desk) {
        if (!has(desks, desk)) {
            return UNKNOWN;
        }
        Desk d = desks.get(desk);
        if (d.age == 200) {
            return FULL;
        }
        d.age++;
        d.shelf.clear();
        d.begun.clear();
        d.parts.clear();
        for (Call c : calls) {
            if (c.desk == desk && c.state == 0) {
                c.state = 5;
                c.waiting = x -> { };
            }
        }
        return d.age;
    }

    int audit(int desk, int what) {
        if (!has(desks, desk)) {
            return UNKNOWN;
        }
        Desk d = desks.get(desk);
        int parts = d.parts.values().stream().mapToInt(p -> p.size() - 1).sum();
        int[] all = {d.slotsSent, d.again, d.shelf.size(), d.age, d.begun.size(), parts, d.whole};
        return what < 0 || what > 6 ? OUTSIDE : all[what];
    }

    // ---- stocks

    int supply(int desk, int article, int n) {
        if (!has(desks, desk)) {
            return UNKNOWN;
        }
        if (article < 0 || article > 3 || n < 1 || n > 1000) {
            return OUTSIDE;
        }
        int[] stock = desks.get(desk).stock;
        if (stock[article] + n > 30000) {
            return FULL;
        }
        return stock[article] += n;
    }

    int carry(int desk, int to, int article, int n) {
        if (!has(desks, desk) || !has(desks, to)) {
            return UNKNOWN;
        }
        if (article < 0 || article > 3 || n < 1 || n > 1000) {
            return OUTSIDE;
        }
        int[] stock = desks.get(desk).stock;
        if (desk == to || stock[article] < n) {
            return NOT;
        }
        if (calls.size() == 60) {
            return FULL;
        }
        stock[article] -= n;
        List<Integer> request = Arrays.asList(250, article, desks.get(to).age, n / 256, n % 256);
        begin(desk, to, NONE, article, NONE, request, List.of(), c -> { });
        calls.get(calls.size() - 1).moved = n;
        return calls.size() - 1;
    }

    int stock(int desk, int article) {
        if (desk != NONE && !has(desks, desk)) {
            return UNKNOWN;
        }
        if (article < 0 || article > 3) {
            return OUTSIDE;
        }
        return desk == NONE ? calls.stream().filter(c -> c.object == NONE && c.method == article).mapToInt(c -> c.moved).sum()
            : desks.get(desk).stock[article];
    }
}
