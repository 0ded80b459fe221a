import java.util.ArrayList;
import java.util.List;
import java.util.Random;

/** Long runs of calls, the same ones each time, on RemoteDesks and on Model; every answer has to be the same. */
public final class ModelTest {
    private static final int RUNS = 1500, CALLS = 480, BOOKS = 20000, WRONG_AT_MOST = 10;
    private static final String[] TEXTS = {
        Make.BOOK,
        "failure a; failure b of a; failure c of b; record r { text a; text b; text c; r n; int i; }\n"
            + "service s { r k(r); r l(r, r, r); int i(int, text); s w(s); text t(text, text, text); }",
        "record r { s_ s; }".replace("s_ s", "int i")
            + "service s { s m(s); r n(r); long x(long); } service t { s m(s); t n(t, s); r o(r, s, t); long x(long); }"
            + "record q { s a; t b; q c; r d; q e; long f; } service u { q m(q); q n(q, q); boolean y(q, boolean); }",
        "service s { int a(); int b(int); long c(boolean, int, long); double d(double); }"
    };

    private static int asked, wrong;

    private final RemoteDesks x = new RemoteDesks();
    private final Model y = new Model();
    private final Random random;
    private final List<String> log = new ArrayList<>();
    private boolean good = true;
    private int supplied;
    /** Of each object the method that its relay calls; -1: it is no relay. */
    private final List<Integer> relayMethods = new ArrayList<>();

    private ModelTest(long seed) {
        random = new Random(seed);
    }

    public static void main(String[] args) {
        for (int i = 0; i < BOOKS && wrong < WRONG_AT_MOST; i++) {
            new ModelTest(i).strangeBook();
        }
        for (int i = 0; i < RUNS && wrong < WRONG_AT_MOST; i++) {
            ModelTest run = new ModelTest(i);
            run.longRun(i);
            if (!run.good) {
                System.out.println("run " + i);
                run.log.forEach(System.out::println);
            }
        }
        System.out.println(asked + " answers, " + wrong + " not as due");
        if (wrong != 0) {
            System.exit(1);
        }
    }

    private boolean same(String call, long got, long want) {
        asked++;
        log.add(call + " = " + got);
        if (got != want) {
            log.add("  due is " + want);
            wrong++;
            good = false;
        }
        return good;
    }

    private int below(int n) {
        return random.nextInt(n);
    }

    /** Mostly a number below n, sometimes one about the edges. */
    private int near(int n) {
        if (n > 0 && below(20) != 0) {
            return below(n);
        }
        int[] edges = {-1, n, n + 1, -2, 0, Integer.MIN_VALUE, Integer.MAX_VALUE};
        return edges[below(edges.length)];
    }

    // ---- books

    private void strangeBook() {
        StringBuilder text = new StringBuilder();
        if (below(3) == 0) {
            text.append(TEXTS[below(TEXTS.length)]);
        } else {
            String[] words = {"failure ", "of ", "record ", "service ", "int ", "text ", "{", "}", "(", ")", ",", ";", "a ",
                "b ", "c ", "?", "failure f;", "failure g of f;", "record r{", "service s{", "int i;", "int m(", "int);",
                "r ", "s ", "}", "}", "abcdefgh ", "abcdefghi ", "\n", "int,", "f ", "long l();", "r n;", "s o(s,r);"};
            for (int i = below(14); i >= 0; i--) {
                text.append(words[below(words.length)]);
            }
        }
        for (int i = below(3); i > 0 && text.length() > 0; i--) {
            int at = below(text.length());
            switch (below(4)) {
                case 0 -> text.deleteCharAt(at);
                case 1 -> text.insert(at, "{}(),; \nabz?".charAt(below(12)));
                case 2 -> text.setCharAt(at, (char) below(256));
                default -> text.insert(at, text.substring(at, Math.min(text.length(), at + below(30))));
            }
        }
        feed(text.toString());
        same("describe", x.describe(), y.describe());
        for (int what = 0; what < 3; what++) {
            same("count", x.count(what), y.count(what));
        }
        if (!same("place", x.place(), y.place())) {
            System.out.println(text);
            log.forEach(System.out::println);
        }
    }

    private void feed(String text) {
        int length = Math.min(1500, text.length());
        for (int i = 0; i < length; i += 20) {
            int[] n = new int[5];
            for (int k = 0; k < 20; k++) {
                n[k / 4] = n[k / 4] << 8 | (i + k < length ? text.charAt(i + k) & 255 : 0);
            }
            same("feed", x.feed(n[0], n[1], n[2], n[3], n[4]), y.feed(n[0], n[1], n[2], n[3], n[4]));
        }
        same("cut", x.cut(length), y.cut(length));
    }

    // ---- runs

    private void longRun(int number) {
        feed(TEXTS[number % TEXTS.length]);
        same("describe", x.describe(), y.describe());
        int desks = 1 + below(4);
        for (int i = 0; i < desks; i++) {
            same("desk", x.desk(), y.desk());
        }
        int nodes = below(3) == 0 && x.count(1) > 0 ? below(60) : 0;
        for (int i = 0; i < nodes; i++) {
            int r = below(x.count(1));
            same("node(" + r + ")", x.node(r), y.node(r));
        }
        for (int i = 0; i < CALLS && good; i++) {
            step(i < 60);
            if (i % 40 == 39 && good) {
                lookAtAll();
            }
        }
        for (int i = 0; i < 200 && good && x.count(8) > 0; i++) {
            through(0);
        }
        lookAtAll();
        if (stockOfAll() != supplied) {
            same("stocks and what is moved", stockOfAll(), supplied);
        }
    }

    private int stockOfAll() {
        int all = 0;
        for (int d = -1; d < x.count(3); d++) {
            for (int a = 0; a < 4; a++) {
                all += x.stock(d, a);
            }
        }
        return all;
    }

    private void step(boolean early) {
        int kind = below(100);
        if (early && kind < 60) {
            makeOne();
        } else if (kind < 8) {
            makeOne();
        } else if (kind < 20) {
            callOne();
        } else if (kind < 60) {
            through(below(3) == 0 ? near(x.count(8)) : 0);
        } else if (kind < 64) {
            int i = near(x.count(8));
            same("lose(" + i + ")", x.lose(i), y.lose(i));
        } else if (kind < 68) {
            int i = near(x.count(8));
            same("twice(" + i + ")", x.twice(i), y.twice(i));
        } else if (kind < 73) {
            int n = below(10) == 0 ? near(101) : below(6);
            same("tick(" + n + ")", x.tick(n), y.tick(n));
        } else if (kind < 75) {
            int d = near(x.count(3));
            same("restart(" + d + ")", x.restart(d), y.restart(d));
        } else if (kind < 85) {
            referOne();
        } else if (kind < 92) {
            stockOne();
        } else if (kind < 98) {
            setOne();
        } else {
            handOne(near(30), below(3) - 1);
        }
    }

    private void through(int i) {
        same("through(" + i + ")", x.through(i), y.through(i));
    }

    private void makeOne() {
        switch (below(10)) {
            case 0 -> {
                if (below(5) == 0) {
                    same("desk()", x.desk(), y.desk());
                }
            }
            case 1, 2, 3, 4 -> {
                int deed = below(3) == 0 ? 5 : near(6);
                makeObject(deed, near(deed == 2 ? x.count(6) : x.count(4) + below(40) / 39));
            }
            case 5 -> {
                int k = near(x.count(0));
                int note = near(1000);
                int cause = below(2) == 0 ? -1 : near(x.count(6));
                same("failure(" + k + ", " + note + ", " + cause + ")", x.failure(k, note, cause), y.failure(k, note, cause));
            }
            case 6 -> {
                int f = near(x.count(6));
                int g = near(x.count(6));
                same("beside(" + f + ", " + g + ")", x.beside(f, g), y.beside(f, g));
            }
            case 7 -> {
                int d = near(x.count(3));
                int k = near(x.count(0));
                boolean on = below(2) == 0;
                same("knows(" + d + ", " + k + ", " + on + ")", x.knows(d, k, on), y.knows(d, k, on));
            }
            default -> {
                int r = near(x.count(1));
                same("node(" + r + ")", x.node(r), y.node(r));
            }
        }
    }

    /** A relay is mostly of its target's service, and is given a reference to it: else it would just fail. */
    private void makeObject(int deed, int with) {
        int d = near(x.count(3));
        boolean fits = deed == 5 && below(8) != 0 && x.told(with, 6) >= 0;
        int s = fits ? x.told(with, 6) : near(x.count(2));
        int m = near(below(3) == 0 ? 8 : 3);
        long number = x.object(d, s, deed, with, m);
        same("object(" + d + ", " + s + ", " + deed + ", " + with + ", " + m + ")", number, y.object(d, s, deed, with, m));
        if (number >= 0) {
            relayMethods.add(deed == 5 ? m : -1);
        }
        if (number >= 0 && deed == 5 && below(10) != 0) {
            same("give(" + d + ", " + with + ")", x.give(d, with), y.give(d, with));
        }
    }

    private void referOne() {
        int d = near(x.count(3));
        int o = near(x.count(4));
        if (below(6) == 0) {
            same("release(" + d + ", " + o + ")", x.release(d, o), y.release(d, o));
        } else {
            same("give(" + d + ", " + o + ")", x.give(d, o), y.give(d, o));
        }
    }

    private void stockOne() {
        int d = near(x.count(3));
        int a = near(4);
        int n = below(4) == 0 ? near(1001) : 1 + below(50);
        if (below(2) == 0) {
            int before = x.stock(d, a);
            same("supply(" + d + ", " + a + ", " + n + ")", x.supply(d, a, n), y.supply(d, a, n));
            supplied += d >= 0 && before >= 0 ? Math.max(0, x.stock(d, a) - before) : 0;
        } else {
            int to = near(x.count(3));
            same("carry(" + d + ", " + to + ", " + a + ", " + n + ")", x.carry(d, to, a, n), y.carry(d, to, a, n));
        }
    }

    private long anyNumber() {
        long[] all = {0, 1, -1, 2, Integer.MAX_VALUE, Integer.MIN_VALUE, 1L << 31, -(1L << 31) - 1, Long.MAX_VALUE,
            Long.MIN_VALUE, RemoteDesks.UNKNOWN, below(1000), random.nextLong(), random.nextInt()};
        return all[below(all.length)];
    }

    private void someLetters() {
        for (int i = below(8) == 0 ? 17 : below(5); i > 0; i--) {
            int c = random.nextInt();
            same("letter(" + c + ")", x.letter(c), y.letter(c));
        }
    }

    private void setOne() {
        int n = near(x.count(5));
        int f = near(6);
        someLetters();
        long v = below(3) == 0 ? anyNumber() : near(below(2) == 0 ? x.count(5) : x.count(4));
        same("set(" + n + ", " + f + ", " + v + ")", x.set(n, f, v), y.set(n, f, v));
    }

    private void handOne(int sort, long v) {
        same("hand(" + sort + ", " + v + ")", x.hand(sort, v), y.hand(sort, v));
    }

    /** Finds, by trying, what a method takes, and calls it; the model does the same. */
    private void callOne() {
        if (x.count(4) == 0) {
            return;
        }
        int d = near(x.count(3));
        int o = near(x.count(4));
        int m = near(below(2) == 0 ? 3 : 8);
        if (o >= 0 && o < relayMethods.size() && relayMethods.get(o) >= 0 && below(8) != 0) {
            m = relayMethods.get(o);
        }
        if (below(12) != 0 && d >= 0 && o >= 0 && d < x.count(3) && o < x.count(4) && x.told(o, 0) != d) {
            same("give(" + d + ", " + o + ")", x.give(d, o), y.give(d, o));
        }
        int[] sorts = SORTS[below(SORTS.length)];
        if (below(6) != 0) {
            same("open()", x.open(), y.open());
        }
        int[] wanted = o >= 0 && o < x.count(4) && below(15) != 0 ? wanted(x.told(o, 6), m, sorts) : sorts;
        for (int sort : wanted) {
            someLettersFor(sort);
            handOne(sort, valueFor(sort));
        }
        same("call(" + d + ", " + o + ", " + m + ")", x.call(d, o, m), y.call(d, o, m));
    }

    private static final int[][] SORTS = {{}, {0}, {0, 0}, {10}, {20}, {4}};

    /** The sorts that a method takes, found in the text of the book. */
    private int[] wanted(int service, int m, int[] otherwise) {
        String text = TEXTS[textNumber()];
        List<String> names = new ArrayList<>();
        int[] found = otherwise;
        int services = 0;
        int records = 0;
        List<Integer> sorts = new ArrayList<>();
        java.util.regex.Matcher part = java.util.regex.Pattern
            .compile("(record|service) (\\w+) ?\\{([^}]*)\\}").matcher(text);
        while (part.find()) {
            names.add(part.group(2));
            boolean isService = part.group(1).equals("service");
            sorts.add(isService ? 20 + services++ : 10 + records++);
            if (isService && services - 1 == service) {
                String[] methods = part.group(3).trim().split(";");
                if (m >= 0 && m < methods.length && methods[m].contains("(")) {
                    String inner = methods[m].substring(methods[m].indexOf('(') + 1, methods[m].indexOf(')')).trim();
                    String[] each = inner.isEmpty() ? new String[0] : inner.split(" *, *");
                    found = new int[each.length];
                    for (int i = 0; i < each.length; i++) {
                        int basic = List.of("int", "long", "double", "boolean", "text").indexOf(each[i]);
                        found[i] = basic >= 0 ? basic : sorts.get(names.indexOf(each[i]));
                    }
                }
            }
        }
        return found;
    }

    /** Which text this run's book is; the books differ in what they count. */
    private int textNumber() {
        int[] kinds = {5, 4, 1, 1};
        for (int i = 0; i < kinds.length; i++) {
            if (x.count(0) == kinds[i] && (i < 2 || (i == 2) == (x.count(1) > 0))) {
                return i;
            }
        }
        return 0;
    }

    private void someLettersFor(int sort) {
        if (sort == 4) {
            someLetters();
        }
    }

    /** A value of a sort: of a node or object one that fits, if there is one. */
    private long valueFor(int sort) {
        if (sort < 10) {
            return sort == 3 ? below(2) : sort == 0 ? random.nextInt() >> below(32) : anyNumber();
        }
        if (below(6) == 0) {
            return -1;
        }
        int most = sort < 20 ? x.count(5) : x.count(4);
        for (int tries = 0; tries < 8; tries++) {
            int v = near(most);
            if (v >= 0 && (sort >= 20 ? x.told(v, 6) == sort - 20 : isOf(v, sort))) {
                return v;
            }
        }
        return below(20) == 0 ? near(most) : -1;
    }

    /** Whether a node is of a record, by the number of its fields: that is enough for these books, mostly. */
    private boolean isOf(int node, int sort) {
        int[][] fields = {{6, 3, 0}, {5}, {1, 6}, {}};
        int[] own = fields[textNumber()];
        int n = 0;
        while (n < 6 && x.field(node, n) != RemoteDesks.UNKNOWN) {
            n++;
        }
        return sort - 10 < own.length && own[sort - 10] == n;
    }

    // ---- looking

    private void lookAtAll() {
        for (int i = -1; i <= 11; i++) {
            same("count(" + i + ")", x.count(i), y.count(i));
        }
        for (int n = -1; n <= x.count(5); n++) {
            for (int f = -1; f <= 6; f++) {
                same("field(" + n + ", " + f + ")", x.field(n, f), y.field(n, f));
                for (int i = -1; x.letterAt(n, f, 0) != RemoteDesks.NONE && i <= 17; i++) {
                    same("letterAt(" + n + ", " + f + ", " + i + ")", x.letterAt(n, f, i), y.letterAt(n, f, i));
                }
            }
        }
        for (int o = -1; o <= x.count(4); o++) {
            for (int what = -1; what <= 7; what++) {
                same("told(" + o + ", " + what + ")", x.told(o, what), y.told(o, what));
            }
            for (int d = -1; d <= x.count(3); d++) {
                same("reference(" + d + ", " + o + ")", x.reference(d, o), y.reference(d, o));
            }
        }
        lookAtCalls();
        for (int d = -2; d <= x.count(3); d++) {
            for (int what = -1; what <= 7; what++) {
                same("audit(" + d + ", " + what + ")", x.audit(d, what), y.audit(d, what));
                same("stock(" + d + ", " + what + ")", x.stock(d, what), y.stock(d, what));
            }
        }
        for (int i = -1; i <= x.count(8); i++) {
            for (int k = -1; k <= 29; k++) {
                same("slot(" + i + ", " + k + ")", x.slot(i, k), y.slot(i, k));
            }
        }
    }

    private void lookAtCalls() {
        for (int c = -1; c <= x.count(7); c++) {
            same("state(" + c + ")", x.state(c), y.state(c));
            same("value(" + c + ")", x.value(c), y.value(c));
            for (int i = -1; i <= 16; i++) {
                same("letterOf(" + c + ", " + i + ")", x.letterOf(c, i), y.letterOf(c, i));
            }
            for (int what = -1; what <= 6; what++) {
                same("about(" + c + ", " + what + ")", x.about(c, what), y.about(c, what));
            }
            for (int i = -2; i <= x.tree(c, -1, 0); i++) {
                for (int what = -1; what <= 5; what++) {
                    same("tree(" + c + ", " + i + ", " + what + ")", x.tree(c, i, what), y.tree(c, i, what));
                }
            }
        }
    }
}
